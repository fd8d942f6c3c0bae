theorem Vb.come {r : xR} {w d : Int} {u j : Nat} (h : Vb r w d) (hw : 0 ≤ w) (hu : u < nS r) (hj : j < nC r) : Vb (comeR r u j) w d := by
  obtain ⟨n6, n6b⟩ := h.n6
  obtain ⟨n7, n7b⟩ := h.n7
  have e0 : ∀ k, k < 16 → comeR r u j k = r k := fun k hk => comeR_0 hk
  have eS : nS (comeR r u j) = nS r := nS_of (e0 6 (by decide))
  have eC : nC (comeR r u j) = nC r := nC_of (e0 7 (by decide))
  refine ⟨?_, fun i hi => ?_, fun i hi => ?_⟩
  · rw [e0 0 (by decide), e0 1 (by decide), e0 2 (by decide), e0 3 (by decide), e0 6 (by decide), e0 7 (by decide)]
    exact h.1
  · rw [eS] at hi
    have g := h.2.1 i hi
    have e : ∀ k, k < 10 → fS (comeR r u j) i k = if i = u ∧ k = 5 then (j : Int) + 1 else if i = u ∧ (k = 6 ∨ k = 7) then 0 else fS r i k := fun k hk => comeR_S (by omega) hk
    unfold Vset at g ⊢
    rw [e 0 (by decide), e 1 (by decide), e 2 (by decide), e 3 (by decide), e 4 (by decide), e 5 (by decide), e 6 (by decide), e 7 (by decide), e0 7 (by decide)]
    by_cases hiu : i = u
    · simp [hiu] at g ⊢
      omega
    · simp [hiu]
      omega
  · rw [eC] at hi
    have g := h.2.2 i hi
    have e : ∀ k, k < 10 → fC (comeR r u j) i k = if i = j ∧ k = 4 then (u : Int) + 1 else fC r i k := fun k hk => comeR_C (by omega) hk
    unfold Vsite at g ⊢
    rw [e 0 (by decide), e 1 (by decide), e 2 (by decide), e 3 (by decide), e 4 (by decide), e 6 (by decide), e 8 (by decide), e0 6 (by decide)]
    by_cases hij : i = j
    · simp [hij] at g ⊢
      omega
    · simp [hij]
      omega
/-- a swap: g's set goes to j, a set of the yard to g -/
def swapR (r : xR) (j g : Nat) : xR := comeR (comeR r (yardF r g (nS r)).toNat g) (hasN r g) j
/-- a new set, a new site -/
def addSetR (r : xR) (x0 x1 x2 x3 : Int) : xR := fun x => if x = 6 then r 6 + 1 else if x = 16 + 10 * nS r then x0 else if x = 16 + 10 * nS r + 1 then x1 else if x = 16 + 10 * nS r + 2 then x2 else if x = 16 + 10 * nS r + 3 then x3 else if 16 + 10 * nS r + 4 ≤ x ∧ x ≤ 16 + 10 * nS r + 8 then 0 else r x
def addSiteR (r : xR) (x0 x1 x2 x3 : Int) : xR := fun x => if x = 7 then r 7 + 1 else if x = 116 + 10 * nC r then x0 else if x = 116 + 10 * nC r + 1 then x1 else if x = 116 + 10 * nC r + 2 then x2 else if x = 116 + 10 * nC r + 3 then x3 else if 116 + 10 * nC r + 4 ≤ x ∧ x ≤ 116 + 10 * nC r + 8 then 0 else r x
theorem addSetR_0 {r : xR} {x0 x1 x2 x3 : Int} {k : Nat} (hk : k < 16) (h6 : k ≠ 6) : addSetR r x0 x1 x2 x3 k = r k := by
  unfold addSetR
  rw [if_neg h6, if_neg (by omega), if_neg (by omega), if_neg (by omega), if_neg (by omega), if_neg (by omega)]
theorem addSetR_C {r : xR} {x0 x1 x2 x3 : Int} {i k : Nat} (hn : nS r < 10) : fC (addSetR r x0 x1 x2 x3) i k = fC r i k := by
  unfold fC addSetR
  rw [if_neg (by omega), if_neg (by omega), if_neg (by omega), if_neg (by omega), if_neg (by omega), if_neg (by omega)]
theorem addSetR_S {r : xR} {x0 x1 x2 x3 : Int} {i k : Nat} (hi : i < nS r) (hk : k < 10) : fS (addSetR r x0 x1 x2 x3) i k = fS r i k := by
  unfold fS addSetR
  rw [if_neg (by omega), if_neg (by omega), if_neg (by omega), if_neg (by omega), if_neg (by omega), if_neg (by omega)]
theorem addSetR_N (r : xR) (x0 x1 x2 x3 : Int) : fS (addSetR r x0 x1 x2 x3) (nS r) 0 = x0 ∧ fS (addSetR r x0 x1 x2 x3) (nS r) 1 = x1 ∧ fS (addSetR r x0 x1 x2 x3) (nS r) 2 = x2 ∧ fS (addSetR r x0 x1 x2 x3) (nS r) 3 = x3 ∧ fS (addSetR r x0 x1 x2 x3) (nS r) 4 = 0 ∧ fS (addSetR r x0 x1 x2 x3) (nS r) 5 = 0 ∧ fS (addSetR r x0 x1 x2 x3) (nS r) 6 = 0 ∧ fS (addSetR r x0 x1 x2 x3) (nS r) 7 = 0 ∧ fS (addSetR r x0 x1 x2 x3) (nS r) 8 = 0 := by
  unfold fS addSetR
  refine ⟨?_, ?_, ?_, ?_, ?_, ?_, ?_, ?_, ?_⟩ <;> (repeat' split) <;> first | rfl | (exfalso; omega)
theorem addSetR_n {r : xR} {x0 x1 x2 x3 : Int} (h : r 6 = (nS r : Int)) : nS (addSetR r x0 x1 x2 x3) = nS r + 1 ∧ nC (addSetR r x0 x1 x2 x3) = nC r ∧ addSetR r x0 x1 x2 x3 6 = r 6 + 1 := by
  have e : addSetR r x0 x1 x2 x3 6 = r 6 + 1 := by
    unfold addSetR
    rw [if_pos rfl]
  refine ⟨?_, nC_of (addSetR_0 (by decide) (by decide)), e⟩
  unfold nS at h ⊢
  rw [e]
  omega
theorem addSiteR_0 {r : xR} {x0 x1 x2 x3 : Int} {k : Nat} (hk : k < 16) (h7 : k ≠ 7) : addSiteR r x0 x1 x2 x3 k = r k := by
  unfold addSiteR
  rw [if_neg h7, if_neg (by omega), if_neg (by omega), if_neg (by omega), if_neg (by omega), if_neg (by omega)]
theorem addSiteR_S {r : xR} {x0 x1 x2 x3 : Int} {i k : Nat} (hi : i < 10) (hk : k < 10) : fS (addSiteR r x0 x1 x2 x3) i k = fS r i k := by
  unfold fS addSiteR
  rw [if_neg (by omega), if_neg (by omega), if_neg (by omega), if_neg (by omega), if_neg (by omega), if_neg (by omega)]
theorem addSiteR_C {r : xR} {x0 x1 x2 x3 : Int} {i k : Nat} (hi : i < nC r) (hk : k < 10) : fC (addSiteR r x0 x1 x2 x3) i k = fC r i k := by
  unfold fC addSiteR
  rw [if_neg (by omega), if_neg (by omega), if_neg (by omega), if_neg (by omega), if_neg (by omega), if_neg (by omega)]
theorem addSiteR_N (r : xR) (x0 x1 x2 x3 : Int) : fC (addSiteR r x0 x1 x2 x3) (nC r) 0 = x0 ∧ fC (addSiteR r x0 x1 x2 x3) (nC r) 1 = x1 ∧ fC (addSiteR r x0 x1 x2 x3) (nC r) 2 = x2 ∧ fC (addSiteR r x0 x1 x2 x3) (nC r) 3 = x3 ∧ fC (addSiteR r x0 x1 x2 x3) (nC r) 4 = 0 ∧ fC (addSiteR r x0 x1 x2 x3) (nC r) 5 = 0 ∧ fC (addSiteR r x0 x1 x2 x3) (nC r) 6 = 0 ∧ fC (addSiteR r x0 x1 x2 x3) (nC r) 7 = 0 ∧ fC (addSiteR r x0 x1 x2 x3) (nC r) 8 = 0 := by
  unfold fC addSiteR
  refine ⟨?_, ?_, ?_, ?_, ?_, ?_, ?_, ?_, ?_⟩ <;> (repeat' split) <;> first | rfl | (exfalso; omega)
theorem addSiteR_n {r : xR} {x0 x1 x2 x3 : Int} (h : r 7 = (nC r : Int)) : nC (addSiteR r x0 x1 x2 x3) = nC r + 1 ∧ nS (addSiteR r x0 x1 x2 x3) = nS r ∧ addSiteR r x0 x1 x2 x3 7 = r 7 + 1 := by
  have e : addSiteR r x0 x1 x2 x3 7 = r 7 + 1 := by
    unfold addSiteR
    rw [if_pos rfl]
  refine ⟨?_, nS_of (addSiteR_0 (by decide) (by decide)), e⟩
  unfold nC at h ⊢
  rw [e]
  omega
theorem St.addSet {M M' : xM} {b : Nat} {r : xR} {x0 x1 x2 x3 : Int} (h : St M b r) (h6 : r 6 = (nS r : Int)) (hn : nS r < 10) (hc : nC r ≤ 12) (e7 : M' b 7 = r 6 + 1) (eb : ∀ k, k < 9 → k ≠ 7 → M' b k = M b k) (e0 : M' (b + 3 + nS r) 0 = x0) (e1 : M' (b + 3 + nS r) 1 = x1) (e2 : M' (b + 3 + nS r) 2 = x2) (e3 : M' (b + 3 + nS r) 3 = x3) (e4 : M' (b + 3 + nS r) 4 = 0) (e5 : M' (b + 3 + nS r) 5 = -5) (e6 : M' (b + 3 + nS r) 6 = 0) (ew : M' (b + 3 + nS r) 7 = 0) (e8 : M' (b + 3 + nS r) 8 = 0) (eo : ∀ a, a ≠ b → a ≠ b + 3 + nS r → M' a = M a) : St M' b (addSetR r x0 x1 x2 x3) := by
  obtain ⟨n1, n2, n3⟩ := addSetR_n (x0 := x0) (x1 := x1) (x2 := x2) (x3 := x3) h6
  refine ⟨?_, fun i hi => ?_, fun i hi => ?_⟩
  · have g := h.1
    rw [eb 0 (by decide) (by decide), eb 1 (by decide) (by decide), eb 2 (by decide) (by decide), eb 3 (by decide) (by decide), eb 4 (by decide) (by decide), eb 5 (by decide) (by decide), eb 6 (by decide) (by decide), e7, eb 8 (by decide) (by decide), n3, addSetR_0 (by decide) (by decide), addSetR_0 (by decide) (by decide), addSetR_0 (by decide) (by decide), addSetR_0 (by decide) (by decide), addSetR_0 (by decide) (by decide), addSetR_0 (by decide) (by decide), addSetR_0 (by decide) (by decide), addSetR_0 (by decide) (by decide)]
    omega
  · rw [n1] at hi
    by_cases e : i = nS r
    · subst e
      obtain ⟨g0, g1, g2, g3, g4, g5, g6, g7, g8⟩ := addSetR_N r x0 x1 x2 x3
      unfold Gen
      rw [e0, e1, e2, e3, e4, e5, e6, ew, e8, g0, g1, g2, g3, g4, g5, g6, g7, g8]
      omega
    · have g := h.2.1 i (by omega)
      have f : ∀ k, k < 10 → fS (addSetR r x0 x1 x2 x3) i k = fS r i k := fun k hk => addSetR_S (by omega) hk
      unfold Gen at g ⊢
      rw [eo _ (by omega) (by omega), f 0 (by decide), f 1 (by decide), f 2 (by decide), f 3 (by decide), f 4 (by decide), f 5 (by decide), f 6 (by decide), f 7 (by decide), f 8 (by decide)]
      exact g
  · rw [n2] at hi
    have g := h.2.2 i hi
    unfold Cus at g ⊢
    rw [eo _ (by omega) (by omega)]
    simp only [addSetR_C hn]
    exact g
theorem St.addSite {M M' : xM} {b : Nat} {r : xR} {x0 x1 x2 x3 : Int} (h : St M b r) (h7 : r 7 = (nC r : Int)) (hn : nS r ≤ 10) (hc : nC r < 12) (e7 : M' b 8 = r 7 + 1) (eb : ∀ k, k < 9 → k ≠ 8 → M' b k = M b k) (en : M' (b + 13 + nC r) 0 = x0 ∧ M' (b + 13 + nC r) 1 = x1 ∧ M' (b + 13 + nC r) 2 = x2 ∧ M' (b + 13 + nC r) 3 = x3 ∧ M' (b + 13 + nC r) 4 = -5 ∧ M' (b + 13 + nC r) 5 = 0 ∧ M' (b + 13 + nC r) 6 = 0 ∧ M' (b + 13 + nC r) 7 = 0 ∧ M' (b + 13 + nC r) 8 = -5) (eo : ∀ a, a ≠ b → a ≠ b + 13 + nC r → M' a = M a) : St M' b (addSiteR r x0 x1 x2 x3) := by
  obtain ⟨n1, n2, n3⟩ := addSiteR_n (x0 := x0) (x1 := x1) (x2 := x2) (x3 := x3) h7
  refine ⟨?_, fun i hi => ?_, fun i hi => ?_⟩
  · have g := h.1
    rw [eb 0 (by decide) (by decide), eb 1 (by decide) (by decide), eb 2 (by decide) (by decide), eb 3 (by decide) (by decide), eb 4 (by decide) (by decide), eb 5 (by decide) (by decide), eb 6 (by decide) (by decide), eb 7 (by decide) (by decide), e7, n3, addSiteR_0 (by decide) (by decide), addSiteR_0 (by decide) (by decide), addSiteR_0 (by decide) (by decide), addSiteR_0 (by decide) (by decide), addSiteR_0 (by decide) (by decide), addSiteR_0 (by decide) (by decide), addSiteR_0 (by decide) (by decide), addSiteR_0 (by decide) (by decide)]
    omega
  · rw [n2] at hi
    have g := h.2.1 i hi
    have f : ∀ k, k < 10 → fS (addSiteR r x0 x1 x2 x3) i k = fS r i k := fun k hk => addSiteR_S (by omega) hk
    unfold Gen at g ⊢
    rw [eo _ (by omega) (by omega), f 0 (by decide), f 1 (by decide), f 2 (by decide), f 3 (by decide), f 4 (by decide), f 5 (by decide), f 6 (by decide), f 7 (by decide), f 8 (by decide)]
    exact g
  · rw [n1] at hi
    by_cases e : i = nC r
    · subst e
      obtain ⟨e0, e1, e2, e3, e4, e5, e6, ew, e8⟩ := en
      obtain ⟨g0, g1, g2, g3, g4, g5, g6, g7, g8⟩ := addSiteR_N r x0 x1 x2 x3
      unfold Cus
      rw [e0, e1, e2, e3, e4, e5, e6, ew, e8, g0, g1, g2, g3, g4, g5, g6, g7, g8]
      omega
    · have g := h.2.2 i (by omega)
      have f : ∀ k, k < 10 → fC (addSiteR r x0 x1 x2 x3) i k = fC r i k := fun k hk => addSiteR_C (by omega) hk
      unfold Cus at g ⊢
      rw [eo _ (by omega) (by omega), f 0 (by decide), f 1 (by decide), f 2 (by decide), f 3 (by decide), f 4 (by decide), f 5 (by decide), f 6 (by decide), f 7 (by decide), f 8 (by decide)]
      exact g
set_option maxHeartbeats 4000000 in
set_option maxRecDepth 100000 in
theorem c_X4_exchange (l : Launch) (D : xD) (Bs sz : Nat) (kd : xKd) (rf : xRf) (M : xM) (b j g : Nat) (r : xR) (hS : ShSt kd rf b) (hV : Vk r) (hM : St M b r) (hj : j < nC r) (hg : g < nC r) (h4 : 0 < fC r g 4) (hy : yardF r g (nS r) ≠ -5) : CtV l D Bs yX4_exchange cX4_exchange 5 none 2 [.ref b, vi (j : Int), vi (g : Int)] sz kd rf M (fun M' => St M' b (swapR r j g) ∧ Off M M' b 25) := by
  refine Ctr.of (yv_X4_exchange.1.2.2.2.2) (List.forall_mem_cons.mpr ⟨rfl, List.forall_mem_cons.mpr ⟨rfl, List.forall_mem_cons.mpr ⟨rfl, fun _ h => absurd h List.not_mem_nil⟩⟩⟩) (Nat.le_of_ble_eq_true rfl) [some (.ref b), some (vi (j : Int)), some (vi (g : Int)), none, none] rfl ?_
  intro p e s m args below meth c X hin
  obtain ⟨-, -, -, -, -, -, -, hb7, hb8⟩ := hM.1
  obtain ⟨n6, n6b⟩ := hV.n6
  obtain ⟨n7, n7b⟩ := hV.n7
  obtain ⟨-, -, -, -, c4, -, -, -, -⟩ := hM.2.2 (g) hg
  obtain ⟨-, -, -, -, w4, -, -⟩ := hV.2.2 (g) hg
  obtain ⟨u, hu, huS, -, -⟩ := yardF_get hy
  obtain ⟨hh, hhi⟩ := hasN_lt hV hg h4
  refine G.aload_n X 1 dX4_exchange_0 rfl rfl ?_
  refine G.getR X fl_X4_26 4 dX4_exchange_1 rfl (hS).1 (hS).2.2.2.1 ?_
  refine G.iload_n X 5 dX4_exchange_4 rfl rfl ?_
  refine G.aald X (i := g) 6 dX4_exchange_5 rfl (ShSt.kc hS) (by decide) (ShSt.rc hS (by omega)) rfl (by omega) (by decide) ?_
  refine G.getf (v := vi ((hasN r g : Int))) X fl_X4_90 9 dX4_exchange_6 rfl (ShSt.c hS (by omega)).1 ((xV_int ((ShSt.c hS (by omega)).2 4)).trans (congrArg vi ?_)) ?_
  · omega
  refine G.istore_n (ls' := [_, _, _, _, _]) X 10 dX4_exchange_9 rfl (by decide) rfl ?_
  refine G.aload_n X 11 dX4_exchange_10 rfl rfl ?_
  refine G.iload_n X 12 dX4_exchange_11 rfl rfl ?_
  refine G.vI1 (d := 0) X ml_X4_107 yv_X4_leastInYard 15 dX4_exchange_12 rfl (c_X4_leastInYard l D Bs _ kd rf _ _ _ _ (hS) hV hM hg) ⟨_, _, (hS).1, rfl, rfl⟩ (by decide) ⟨Nat.zero_le _, Nat.zero_le _⟩ (Nat.le_of_ble_eq_true rfl) (fun r12 M12 h12 => ?_)
  obtain ⟨hr12, hm12⟩ := h12
  obtain rfl : r12 = (u : Int) := hr12.trans hu
  obtain rfl := hm12.symm
  refine G.istore (ls' := [_, _, _, _, _]) X 17 dX4_exchange_15 rfl (by decide) rfl ?_
  refine G.aload_n X 18 dX4_exchange_17 rfl rfl ?_
  refine G.iload_n X 19 dX4_exchange_18 rfl rfl ?_
  refine G.vI1 (d := 0) X ml_X4_93 yv_X4_isSet 22 dX4_exchange_19 rfl (c_X4_isSet l D Bs _ kd rf _ _ _ (hS) (by omega) (by omega)) ⟨_, _, (hS).1, rfl, rfl⟩ (by decide) ⟨Nat.zero_le _, Nat.zero_le _⟩ (Nat.le_of_ble_eq_true rfl) (fun r19 M19 h19 => ?_)
  obtain ⟨hr19, hm19⟩ := h19
  subst hr19
  obtain rfl := hm19.symm
  refine G.ifb_eq X 47 25 dX4_exchange_22 (by decide) rfl (fun hc22 => ?_) (fun hc22 => ?_)
  · refine G.vret X dX4_exchange_47 ⟨Nat.le_refl _, Nat.le_refl _⟩ ⟨rfl, rfl, rfl, rfl, ?_⟩
    first
      | (exfalso; omega)
      | (refine ⟨?_, h38.2.trans h44.2⟩
         unfold swapR
         rw [hu]
         exact h44.1)
  · refine G.aload_n X 26 dX4_exchange_25 rfl rfl ?_
    refine G.iload X 28 dX4_exchange_26 rfl rfl ?_
    refine G.vI1 (d := 0) X ml_X4_93 yv_X4_isSet 31 dX4_exchange_28 rfl (c_X4_isSet l D Bs _ kd rf _ _ _ (hS) (by omega) (by omega)) ⟨_, _, (hS).1, rfl, rfl⟩ (by decide) ⟨Nat.zero_le _, Nat.zero_le _⟩ (Nat.le_of_ble_eq_true rfl) (fun r28 M28 h28 => ?_)
    obtain ⟨hr28, hm28⟩ := h28
    subst hr28
    obtain rfl := hm28.symm
    refine G.ifb_eq X 47 34 dX4_exchange_31 (by decide) rfl (fun hc31 => ?_) (fun hc31 => ?_)
    · refine G.vret X dX4_exchange_47 ⟨Nat.le_refl _, Nat.le_refl _⟩ ⟨rfl, rfl, rfl, rfl, ?_⟩
      first
        | (exfalso; omega)
        | (refine ⟨?_, h38.2.trans h44.2⟩
           unfold swapR
           rw [hu]
           exact h44.1)
    · refine G.aload_n X 35 dX4_exchange_34 rfl rfl ?_
      refine G.iload X 37 dX4_exchange_35 rfl rfl ?_
      refine G.iload_n X 38 dX4_exchange_37 rfl rfl ?_
      refine G.vV2 (d := 1) X ml_X4_111 yv_X4_send 41 dX4_exchange_38 rfl (c_X4_send l D Bs _ kd rf _ _ _ _ _ (hS) hV hM huS hg) ⟨_, _, (hS).1, rfl, rfl⟩ (by decide) ⟨Nat.zero_le _, Nat.zero_le _⟩ (Nat.le_of_ble_eq_true rfl) (fun M38 h38 => ?_)
      refine G.aload_n X 42 dX4_exchange_41 rfl rfl ?_
      refine G.iload_n X 43 dX4_exchange_42 rfl rfl ?_
      refine G.iload_n X 44 dX4_exchange_43 rfl rfl ?_
      have hV2 := Vb.come hV (by decide) huS hg
      have e6 : nS (comeR r u g) = nS r := nS_of (comeR_0 (by decide))
      have e7 : nC (comeR r u g) = nC r := nC_of (comeR_0 (by decide))
      refine G.vV2 (d := 1) X ml_X4_111 yv_X4_send 47 dX4_exchange_44 rfl (c_X4_send l D Bs _ kd rf _ _ _ _ _ (hS) hV2 h38.1 (by omega) (by omega)) ⟨_, _, (hS).1, rfl, rfl⟩ (by decide) ⟨Nat.zero_le _, Nat.zero_le _⟩ (Nat.le_of_ble_eq_true rfl) (fun M44 h44 => ?_)
      refine G.vret X dX4_exchange_47 ⟨Nat.le_refl _, Nat.le_refl _⟩ ⟨rfl, rfl, rfl, rfl, ?_⟩
      first
        | (exfalso; omega)
        | (refine ⟨?_, h38.2.trans h44.2⟩
           unfold swapR
           rw [hu]
           exact h44.1)
set_option maxHeartbeats 4000000 in
set_option maxRecDepth 100000 in
theorem c_X4_appendSet (l : Launch) (D : xD) (Bs sz : Nat) (kd : xKd) (rf : xRf) (M : xM) (b : Nat) (x0 x1 x2 x3 : Int) (r : xR) (hS : ShSt kd rf b) (hV : Vk r) (hM : St M b r) (hn : nS r < 10) : CtI l D Bs yX4_appendSet cX4_appendSet 6 (some .int) 1 [.ref b, vi x0, vi x1, vi x2, vi x3] sz kd rf M (fun q M' => q = (nS r : Int) ∧ St M' b (addSetR r x0 x1 x2 x3) ∧ Off M M' b 25) := by
  refine Ctr.of (yv_X4_appendSet.1.2.2.2.2) (List.forall_mem_cons.mpr ⟨rfl, List.forall_mem_cons.mpr ⟨rfl, List.forall_mem_cons.mpr ⟨rfl, List.forall_mem_cons.mpr ⟨rfl, List.forall_mem_cons.mpr ⟨rfl, fun _ h => absurd h List.not_mem_nil⟩⟩⟩⟩⟩) (Nat.le_of_ble_eq_true rfl) [some (.ref b), some (vi x0), some (vi x1), some (vi x2), some (vi x3), none] rfl ?_
  intro p e s m args below meth c X hin
  obtain ⟨-, -, -, -, -, -, -, hb7, -⟩ := hM.1
  obtain ⟨n6, n6b⟩ := hV.n6
  obtain ⟨n7, n7b⟩ := hV.n7
  refine G.aload_n X 1 dX4_appendSet_0 rfl rfl ?_
  refine G.getR X fl_X4_20 4 dX4_appendSet_1 rfl (hS).1 (hS).2.2.1 ?_
  refine G.aload_n X 5 dX4_appendSet_4 rfl rfl ?_
  refine G.getf (v := vi ((nS r : Int))) X fl_X4_47 8 dX4_appendSet_5 rfl (hS).1 ((xV_int ((hS).2.1 7 (by decide))).trans (congrArg vi ?_)) ?_
  · omega
  refine G.aald X 9 dX4_appendSet_8 rfl (ShSt.kg hS) (by decide) (ShSt.rg hS (by omega)) rfl (by omega) (by decide) ?_
  refine G.astore (ls' := [_, _, _, _, _, _]) X 11 dX4_appendSet_9 rfl (by decide) rfl ?_
  refine G.aload X 13 dX4_appendSet_11 rfl rfl ?_
  refine G.iload_n X 14 dX4_appendSet_13 rfl rfl ?_
  refine G.putI X fl_X4_64 fi_1_0 rfl 17 dX4_appendSet_14 rfl (ShSt.g hS (by omega)).1 ((ShSt.g hS (by omega)).2 0) ?_
  refine G.aload X 19 dX4_appendSet_17 rfl rfl ?_
  refine G.iload_n X 20 dX4_appendSet_19 rfl rfl ?_
  refine G.putI X fl_X4_67 fi_1_1 rfl 23 dX4_appendSet_20 rfl (ShSt.g hS (by omega)).1 ((ShSt.g hS (by omega)).2 1) ?_
  refine G.aload X 25 dX4_appendSet_23 rfl rfl ?_
  refine G.iload_n X 26 dX4_appendSet_25 rfl rfl ?_
  refine G.putI X fl_X4_70 fi_1_2 rfl 29 dX4_appendSet_26 rfl (ShSt.g hS (by omega)).1 ((ShSt.g hS (by omega)).2 2) ?_
  refine G.aload X 31 dX4_appendSet_29 rfl rfl ?_
  refine G.iload X 33 dX4_appendSet_31 rfl rfl ?_
  refine G.putI X fl_X4_73 fi_1_3 rfl 36 dX4_appendSet_33 rfl (ShSt.g hS (by omega)).1 ((ShSt.g hS (by omega)).2 3) ?_
  refine G.aload X 38 dX4_appendSet_36 rfl rfl ?_
  refine G.iconst X 39 dX4_appendSet_38 rfl ?_
  refine G.putI X fl_X4_76 fi_1_4 rfl 42 dX4_appendSet_39 rfl (ShSt.g hS (by omega)).1 ((ShSt.g hS (by omega)).2 4) ?_
  refine G.aload X 44 dX4_appendSet_42 rfl rfl ?_
  refine G.iconst X 45 dX4_appendSet_44 rfl ?_
  refine G.putI X fl_X4_79 fi_1_8 rfl 48 dX4_appendSet_45 rfl (ShSt.g hS (by omega)).1 ((ShSt.g hS (by omega)).2 8) ?_
  refine G.aload X 50 dX4_appendSet_48 rfl rfl ?_
  refine G.bipush X 52 dX4_appendSet_50 rfl (by decide) ?_
  refine G.vV1 (d := 0) X ml_X4_82 yv_X1_moveTo 55 dX4_appendSet_52 rfl (c_X1_moveTo l D Bs _ kd rf _ _ _ (ShSt.g hS (by omega))) ⟨_, _, (ShSt.g hS (by omega)).1, rfl, rfl⟩ (by decide) ⟨Nat.zero_le _, Nat.zero_le _⟩ (Nat.le_of_ble_eq_true rfl) (fun M52 h52 => ?_)
  subst h52
  refine G.aload_n X 56 dX4_appendSet_55 rfl rfl ?_
  refine G.dup X 57 dX4_appendSet_56 rfl rfl ?_
  refine G.getf (v := vi (r 6)) X fl_X4_47 60 dX4_appendSet_57 rfl (hS).1 ((xV_int ((hS).2.1 7 (by decide))).trans (congrArg vi ?_)) ?_
  · simp only [mu_read, Nat.reduceEqDiff, and_false, reduceIte]
    repeat' split
    all_goals first | (exfalso; omega) | omega
  refine G.iconst X 61 dX4_appendSet_60 rfl ?_
  refine G.iadd X 62 dX4_appendSet_61 rfl ?_
  refine G.putI X fl_X4_47 fi_4_7 rfl 65 dX4_appendSet_62 rfl (hS).1 ((hS).2.1 7 (by decide)) ?_
  refine G.aload_n X 66 dX4_appendSet_65 rfl rfl ?_
  refine G.getf (v := vi (r 6 + 1)) X fl_X4_47 69 dX4_appendSet_66 rfl (hS).1 ((xV_int ((hS).2.1 7 (by decide))).trans (congrArg vi ?_)) ?_
  · exact mu_same
  refine G.iconst X 70 dX4_appendSet_69 rfl ?_
  refine G.isub X 71 dX4_appendSet_70 rfl ?_
  refine G.iret X dX4_appendSet_71 ⟨Nat.le_refl _, Nat.le_refl _⟩ ⟨rfl, rfl, rfl, _, rfl, ?_⟩
  refine ⟨by omega, ?_, Off.mu (Off.mu (Off.mu (Off.mu (Off.mu (Off.mu (Off.mu (Off.mu (Off.mu (Off.mu (Off.rf) (by omega)) (by omega)) (by omega)) (by omega)) (by omega)) (by omega)) (by omega)) (by omega)) (by omega)) (by omega)⟩
  refine hM.addSet n6 (by omega) n7b mu_same (fun k h9 h7 => ?_) ?_ ?_ ?_ ?_ ?_ ?_ ?_ ?_ ?_ (fun a h1 h2 => ?_)
  · rw [mu_ne (Or.inr h7)]
    simp only [mu_ne (Or.inl (show b ≠ b + 3 + nS r by omega))]
  all_goals try (rw [mu_ne (Or.inl (show b + 3 + nS r ≠ b by omega))]; simp only [mu_read, Nat.reduceEqDiff, and_false, and_true, and_self, reduceIte]; done)
  funext k
  rw [mu_ne (Or.inl h1)]
  simp only [mu_ne (Or.inl h2)]
set_option maxHeartbeats 4000000 in
set_option maxRecDepth 100000 in
theorem c_X4_appendSite (l : Launch) (D : xD) (Bs sz : Nat) (kd : xKd) (rf : xRf) (M : xM) (b : Nat) (x0 x1 x2 x3 : Int) (r : xR) (hS : ShSt kd rf b) (hV : Vk r) (hM : St M b r) (hn : nC r < 12) : CtI l D Bs yX4_appendSite cX4_appendSite 5 (some .int) 1 [.ref b, vi x0, vi x1, vi x2, vi x3] sz kd rf M (fun q M' => q = (nC r : Int) ∧ St M' b (addSiteR r x0 x1 x2 x3) ∧ Off M M' b 25) := by
  refine Ctr.of (yv_X4_appendSite.1.2.2.2.2) (List.forall_mem_cons.mpr ⟨rfl, List.forall_mem_cons.mpr ⟨rfl, List.forall_mem_cons.mpr ⟨rfl, List.forall_mem_cons.mpr ⟨rfl, List.forall_mem_cons.mpr ⟨rfl, fun _ h => absurd h List.not_mem_nil⟩⟩⟩⟩⟩) (Nat.le_of_ble_eq_true rfl) [some (.ref b), some (vi x0), some (vi x1), some (vi x2), some (vi x3)] rfl ?_
  intro p e s m args below meth c X hin
  obtain ⟨-, -, -, -, -, -, -, -, hb8⟩ := hM.1
  obtain ⟨n6, n6b⟩ := hV.n6
  obtain ⟨n7, n7b⟩ := hV.n7
  refine G.aload_n X 1 dX4_appendSite_0 rfl rfl ?_
  refine G.getR X fl_X4_26 4 dX4_appendSite_1 rfl (hS).1 (hS).2.2.2.1 ?_
  refine G.aload_n X 5 dX4_appendSite_4 rfl rfl ?_
  refine G.getf (v := vi ((nC r : Int))) X fl_X4_50 8 dX4_appendSite_5 rfl (hS).1 ((xV_int ((hS).2.1 8 (by decide))).trans (congrArg vi ?_)) ?_
  · omega
  refine G.aald X 9 dX4_appendSite_8 rfl (ShSt.kc hS) (by decide) (ShSt.rc hS (by omega)) rfl (by omega) (by decide) ?_
  refine G.iload_n X 10 dX4_appendSite_9 rfl rfl ?_
  refine G.iload_n X 11 dX4_appendSite_10 rfl rfl ?_
  refine G.iload_n X 12 dX4_appendSite_11 rfl rfl ?_
  refine G.iload X 14 dX4_appendSite_12 rfl rfl ?_
  refine G.vV4 (d := 0) X ml_X4_86 yv_X0_begin 17 dX4_appendSite_14 rfl (c_X0_begin l D Bs _ kd rf _ _ _ _ _ _ (ShSt.c hS (by omega))) ⟨_, _, (ShSt.c hS (by omega)).1, rfl, rfl⟩ (by decide) ⟨Nat.zero_le _, Nat.zero_le _⟩ (Nat.le_of_ble_eq_true rfl) (fun M14 h14 => ?_)
  have e14 : M14 b = M b := h14.2 b (by omega)
  refine G.aload_n X 18 dX4_appendSite_17 rfl rfl ?_
  refine G.dup X 19 dX4_appendSite_18 rfl rfl ?_
  refine G.getf (v := vi (r 7)) X fl_X4_50 22 dX4_appendSite_19 rfl (hS).1 ((xV_int ((hS).2.1 8 (by decide))).trans (congrArg vi ?_)) ?_
  · rw [e14]; exact hb8
  refine G.iconst X 23 dX4_appendSite_22 rfl ?_
  refine G.iadd X 24 dX4_appendSite_23 rfl ?_
  refine G.putI X fl_X4_50 fi_4_8 rfl 27 dX4_appendSite_24 rfl (hS).1 ((hS).2.1 8 (by decide)) ?_
  refine G.aload_n X 28 dX4_appendSite_27 rfl rfl ?_
  refine G.getf (v := vi (r 7 + 1)) X fl_X4_50 31 dX4_appendSite_28 rfl (hS).1 ((xV_int ((hS).2.1 8 (by decide))).trans (congrArg vi ?_)) ?_
  · exact mu_same
  refine G.iconst X 32 dX4_appendSite_31 rfl ?_
  refine G.isub X 33 dX4_appendSite_32 rfl ?_
  refine G.iret X dX4_appendSite_33 ⟨Nat.le_refl _, Nat.le_refl _⟩ ⟨rfl, rfl, rfl, _, rfl, ?_⟩
  refine ⟨by omega, ?_, ?_⟩
  · refine hM.addSite n7 n6b (by omega) mu_same (fun k h9 h8 => ?_) ?_ (fun a h1 h2 => ?_)
    · rw [mu_ne (Or.inr h8), e14]
    · have e : mu M14 b 8 (r 7 + 1) (b + 13 + nC r) = M14 (b + 13 + nC r) := ms_ne (by omega)
      rw [e]
      exact h14.1
    · exact (ms_ne h1).trans (h14.2 a h2)
  · intro a ha
    exact (ms_ne (by omega)).trans (h14.2 a (by omega))
