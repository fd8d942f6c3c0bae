theorem fu_self {r : xR} {k : Nat} : fu r k (r k) = r := by
  funext j
  by_cases h : j = k
  · subst h
    rw [fu_same]
  · rw [fu_ne h]
theorem fu_eq {r : xR} {k : Nat} {x : Int} (h : x = r k) : fu r k x = r := by
  subst h
  exact fu_self
theorem St.rel0 {M : xM} {b s : Nat} {r : xR} (h : St M b r) (hs : s < 12) (hn : nS r ≤ 10 ∧ nC r ≤ 12) (h4 : fC r s 4 = 0) : St (mu M (b + 13 + s) 4 (-5)) b (relR r s) := by
  have h1 := h.setC (k := 4) (x := fC r s 4) (y := -5) hs hn (by decide) (by omega)
  unfold relR
  rw [if_neg (by omega)]
  rw [show fu r (116 + 10 * s + 4) (fC r s 4) = r from fu_self] at h1
  exact h1
theorem St.lit {M : xM} {b s : Nat} {r : xR} {v4 v8 v6 vb v5 v7 : Int} (h : St M b r) (hm : hasN r s < 10) (hs : s < 12) (hn : nS r ≤ 10 ∧ nC r ≤ 12) (e4 : v4 = fS r (hasN r s) 4 - fS r (hasN r s) 2) (e8 : v8 = fS r (hasN r s) 8 + 1) (e6 : v6 = bi (fS r (hasN r s) 2 ≤ fS r (hasN r s) 4 - fS r (hasN r s) 2)) (eb : vb = r 4 + fS r (hasN r s) 2) (e5 : v5 = fC r s 5 + 1) (e7 : v7 = fC r s 7 + fS r (hasN r s) 0 * r 2) :
    St (mu (mu (mu (mu (mu (mu M (b + 3 + hasN r s) 4 v4) (b + 3 + hasN r s) 8 v8) (b + 3 + hasN r s) 6 v6) b 4 vb) (b + 13 + s) 5 v5) (b + 13 + s) 7 v7) b (litR r s) := by
  subst e4 e8 e6 eb e5 e7
  unfold litR
  have n0 : ∀ (q : xR) (k : Nat) (x : Int), nS q ≤ 10 ∧ nC q ≤ 12 → nS (fu q (16 + 10 * hasN r s + k) x) ≤ 10 ∧ nC (fu q (16 + 10 * hasN r s + k) x) ≤ 12 := fun q k x h => by rw [nS_fuS, nC_fuS]; exact h
  have n1 : ∀ (q : xR) (k : Nat) (x : Int), nS q ≤ 10 ∧ nC q ≤ 12 → nS (fu q (116 + 10 * s + k) x) ≤ 10 ∧ nC (fu q (116 + 10 * s + k) x) ≤ 12 := fun q k x h => by rw [nS_fuC, nC_fuC]; exact h
  have n2 : ∀ (q : xR) (x : Int), nS q ≤ 10 ∧ nC q ≤ 12 → nS (fu q 4 x) ≤ 10 ∧ nC (fu q 4 x) ≤ 12 := fun q x h => by rw [nS_fu0 (by decide), nC_fu0 (by decide)]; exact h
  have h1 := h.setG (k := 4) (x := fS r (hasN r s) 4 - fS r (hasN r s) 2) hm hn (by decide) (by decide)
  have h2 := h1.setG (k := 8) (x := fS r (hasN r s) 8 + 1) hm (n0 _ _ _ hn) (by decide) (by decide)
  have h3 := h2.setG (k := 6) (x := bi (fS r (hasN r s) 2 ≤ fS r (hasN r s) 4 - fS r (hasN r s) 2)) hm (n0 _ _ _ (n0 _ _ _ hn)) (by decide) (by decide)
  have h4 := h3.set0 (k := 4) (j := 4) (x := r 4 + fS r (hasN r s) 2) (n0 _ _ _ (n0 _ _ _ (n0 _ _ _ hn))) (by decide)
  have h5 := h4.setC (k := 5) (x := fC r s 5 + 1) (y := fC r s 5 + 1) hs (n2 _ _ (n0 _ _ _ (n0 _ _ _ (n0 _ _ _ hn)))) (by decide) (by omega)
  have h6 := h5.setC (k := 7) (x := fC r s 7 + fS r (hasN r s) 0 * r 2) (y := fC r s 7 + fS r (hasN r s) 0 * r 2) hs (n1 _ _ _ (n2 _ _ (n0 _ _ _ (n0 _ _ _ (n0 _ _ _ hn))))) (by decide) (by omega)
  exact (h6.ign (j := 10) (by decide)).ign (j := 8) (by decide)
theorem St.dark1 {M : xM} {b s : Nat} {r : xR} {v6 : Int} (h : St M b r) (hs : s < 12) (hn : nS r ≤ 10 ∧ nC r ≤ 12) (e6 : v6 = fC r s 6 + 1) : St (mu (mu M (b + 13 + s) 6 v6) (b + 13 + s) 8 1) b (darkR r s 1) := by
  subst e6
  unfold darkR
  dsimp only
  rw [if_neg (by decide), if_neg (by decide)]
  have n1 : ∀ (q : xR) (k : Nat) (x : Int), nS q ≤ 10 ∧ nC q ≤ 12 → nS (fu q (116 + 10 * s + k) x) ≤ 10 ∧ nC (fu q (116 + 10 * s + k) x) ≤ 12 := fun q k x h => by rw [nS_fuC, nC_fuC]; exact h
  have h1 := h.setC (k := 6) (x := fC r s 6 + 1) (y := fC r s 6 + 1) hs hn (by decide) (by omega)
  have h2 := h1.setC (k := 8) (x := 1) (y := 1) hs (n1 _ _ _ hn) (by decide) (by omega)
  have h3 := h2.ign (j := 9) (x := r 9 + 1) (by decide)
  rw [fu_eq (k := 11) (by rw [fu_ne (by decide), at_fuC (by decide), at_fuC (by decide)]; omega)]
  exact h3
theorem St.darkG {M : xM} {b s : Nat} {r : xR} {c v6 vb v7 : Int} (h : St M b r) (hm : hasN r s < 10) (hs : s < 12) (hn : nS r ≤ 10 ∧ nC r ≤ 12) (hc : c = 2 ∨ c = 3) (e6 : v6 = fC r s 6 + 1) (eb : vb = r 11 + 1) (e7 : v7 = fS r (hasN r s) 7 + (if c = 3 then 1 else 0)) :
    St (mu (mu (mu (mu M (b + 13 + s) 6 v6) (b + 13 + s) 8 c) b 6 vb) (b + 3 + hasN r s) 7 v7) b (darkR r s c) := by
  subst e6 eb
  have n1 : ∀ (q : xR) (k : Nat) (x : Int), nS q ≤ 10 ∧ nC q ≤ 12 → nS (fu q (116 + 10 * s + k) x) ≤ 10 ∧ nC (fu q (116 + 10 * s + k) x) ≤ 12 := fun q k x h => by rw [nS_fuC, nC_fuC]; exact h
  have n2 : ∀ (q : xR) (j : Nat) (x : Int), (j ≠ 6 ∧ j ≠ 7) → nS q ≤ 10 ∧ nC q ≤ 12 → nS (fu q j x) ≤ 10 ∧ nC (fu q j x) ≤ 12 := fun q j x hj h => by rw [nS_fu0 hj.1, nC_fu0 hj.2]; exact h
  have h1 := h.setC (k := 6) (x := fC r s 6 + 1) (y := fC r s 6 + 1) hs hn (by decide) (by omega)
  have h2 := h1.setC (k := 8) (x := c) (y := c) hs (n1 _ _ _ hn) (by decide) (by omega)
  have h3 := h2.ign (j := 9) (x := r 9 + 1) (by decide)
  have h4 := h3.set0 (k := 6) (j := 11) (x := r 11 + 1) (n2 _ _ _ (by decide) (n1 _ _ _ (n1 _ _ _ hn))) (by decide)
  have h5 := h4.setG (k := 7) (x := v7) hm (n2 _ _ _ (by decide) (n2 _ _ _ (by decide) (n1 _ _ _ (n1 _ _ _ hn)))) (by decide) (by decide)
  unfold darkR
  dsimp only
  rw [if_pos (show 1 < c by omega)]
  by_cases h3c : c = 3
  · rw [if_pos h3c] at e7
    rw [if_pos h3c, ← e7]
    exact h5
  · rw [if_neg h3c] at e7
    rw [if_neg h3c]
    rw [fu_eq (k := 16 + 10 * hasN r s + 7) (by rw [fu_ne (by omega), fu_ne (by omega), fu_ne (by omega), fu_ne (by omega), e7]; exact Int.add_zero _)] at h5
    exact h5
theorem caF_rng (g : xR) (t : Int) : caF g t = 0 ∨ caF g t = 2 ∨ caF g t = 3 := by
  unfold caF
  repeat' split
  all_goals omega
theorem causeR_has {r : xR} {s : Nat} (h : fC r s 4 ≠ 0) : causeR r s = 0 ∨ causeR r s = 2 ∨ causeR r s = 3 := by
  unfold causeR
  rw [if_neg h]
  exact caF_rng _ _
theorem causeR_rng (r : xR) (s : Nat) : 0 ≤ causeR r s ∧ causeR r s ≤ 3 := by
  by_cases h : fC r s 4 = 0
  · unfold causeR
    rw [if_pos h]
    omega
  · have := causeR_has (r := r) (s := s) h
    omega
set_option maxHeartbeats 4000000 in
set_option maxRecDepth 100000 in
theorem c_X4_send (l : Launch) (D : xD) (Bs sz : Nat) (kd : xKd) (rf : xRf) (M : xM) (b u j : Nat) (r : xR) (hS : ShSt kd rf b) (hV : Vk r) (hM : St M b r) (hm : u < nS r) (hs : j < nC r) : CtV l D Bs yX4_send cX4_send 3 none 1 [.ref b, vi (u : Int), vi (j : Int)] sz kd rf M (fun M' => St M' b (comeR r u j) ∧ Off M M' b 25) := by
  refine Ctr.of (yv_X4_send.1.2.2.2.2) (List.forall_mem_cons.mpr ⟨rfl, List.forall_mem_cons.mpr ⟨rfl, List.forall_mem_cons.mpr ⟨rfl, fun _ h => absurd h List.not_mem_nil⟩⟩⟩) (Nat.le_of_ble_eq_true rfl) [some (.ref b), some (vi (u : Int)), some (vi (j : Int))] rfl ?_
  intro p e s m args below meth c X hin
  obtain ⟨-, -, -, -, -, -, -, hb7, hb8⟩ := hM.1
  obtain ⟨n6, n6b⟩ := hV.n6
  obtain ⟨n7, n7b⟩ := hV.n7
  refine G.aload_n X 1 dX4_send_0 rfl rfl ?_
  refine G.getR X fl_X4_26 4 dX4_send_1 rfl (hS).1 (hS).2.2.2.1 ?_
  refine G.iload_n X 5 dX4_send_4 rfl rfl ?_
  refine G.aald X 6 dX4_send_5 rfl (ShSt.kc hS) (by decide) (ShSt.rc hS (by omega)) rfl (by omega) (by decide) ?_
  refine G.iload_n X 7 dX4_send_6 rfl rfl ?_
  refine G.putI X fl_X4_90 fi_0_4 rfl 10 dX4_send_7 rfl (ShSt.c hS (by omega)).1 ((ShSt.c hS (by omega)).2 4) ?_
  refine G.aload_n X 11 dX4_send_10 rfl rfl ?_
  refine G.getR X fl_X4_20 14 dX4_send_11 rfl (hS).1 (hS).2.2.1 ?_
  refine G.iload_n X 15 dX4_send_14 rfl rfl ?_
  refine G.aald X 16 dX4_send_15 rfl (ShSt.kg hS) (by decide) (ShSt.rg hS (by omega)) rfl (by omega) (by decide) ?_
  refine G.iload_n X 17 dX4_send_16 rfl rfl ?_
  refine G.vV1 (d := 0) X ml_X4_82 yv_X1_moveTo 20 dX4_send_17 rfl (c_X1_moveTo l D Bs _ kd rf _ _ _ (ShSt.g hS (by omega))) ⟨_, _, (ShSt.g hS (by omega)).1, rfl, rfl⟩ (by decide) ⟨Nat.zero_le _, Nat.zero_le _⟩ (Nat.le_of_ble_eq_true rfl) (fun M17 h17 => ?_)
  subst h17
  refine G.vret X dX4_send_20 ⟨Nat.le_refl _, Nat.le_refl _⟩ ⟨rfl, rfl, rfl, rfl, ?_⟩
  exact ⟨hM.come (by omega) (by omega) ⟨n6b, n7b⟩, Off.mu (Off.mu (Off.mu (Off.mu (Off.rf) (by omega)) (by omega)) (by omega)) (by omega)⟩
set_option maxHeartbeats 4000000 in
set_option maxRecDepth 100000 in
theorem c_X4_release (l : Launch) (D : xD) (Bs sz : Nat) (kd : xKd) (rf : xRf) (M : xM) (b j : Nat) (r : xR) (hS : ShSt kd rf b) (hV : Vk r) (hM : St M b r) (hs : j < nC r) : CtV l D Bs yX4_release cX4_release 3 none 2 [.ref b, vi (j : Int)] sz kd rf M (fun M' => St M' b (relR r j) ∧ Off M M' b 25) := by
  refine Ctr.of (yv_X4_release.1.2.2.2.2) (List.forall_mem_cons.mpr ⟨rfl, List.forall_mem_cons.mpr ⟨rfl, fun _ h => absurd h List.not_mem_nil⟩⟩) (Nat.le_of_ble_eq_true rfl) [some (.ref b), some (vi (j : Int)), none] rfl ?_
  intro p e s m args below meth c X hin
  obtain ⟨-, -, -, -, -, -, -, hb7, hb8⟩ := hM.1
  obtain ⟨n6, n6b⟩ := hV.n6
  obtain ⟨n7, n7b⟩ := hV.n7
  obtain ⟨-, -, -, -, c4, -, -, -, -⟩ := hM.2.2 (j) (by omega)
  obtain ⟨-, -, -, -, w4, -, -⟩ := hV.2.2 (j) (by omega)
  refine G.aload_n X 1 dX4_release_0 rfl rfl ?_
  refine G.aload_n X 2 dX4_release_1 rfl rfl ?_
  refine G.getR X fl_X4_26 5 dX4_release_2 rfl (hS).1 (hS).2.2.2.1 ?_
  refine G.iload_n X 6 dX4_release_5 rfl rfl ?_
  refine G.aald X 7 dX4_release_6 rfl (ShSt.kc hS) (by decide) (ShSt.rc hS (by omega)) rfl (by omega) (by decide) ?_
  refine G.vR1 (d := 1) X ml_X4_97 yv_X4_supplyOf 10 dX4_release_7 rfl (c_X4_supplyOf l D Bs _ kd rf _ _ _ (hS) (ShSt.c hS (by omega)) (by omega) (by omega)) ⟨_, _, (hS).1, rfl, rfl⟩ (by decide) ⟨Nat.zero_le _, Nat.zero_le _⟩ (Nat.le_of_ble_eq_true rfl) (fun r7 M7 h7 => ?_)
  obtain ⟨hm7, hz7⟩ := h7
  obtain rfl := hm7.symm
  rcases hz7 with ⟨hn7, hz7⟩ | ⟨i7, hi7, hj7, hn7⟩
  · subst hn7
    refine G.astore_nN (ls' := [_, _, _]) X 11 dX4_release_10 rfl (by decide) rfl ?_
    refine G.aload_nN X 12 dX4_release_11 rfl rfl ?_
    refine G.ifnullN X 21 dX4_release_12 (by decide) ?_
    refine G.aload_n X 22 dX4_release_21 rfl rfl ?_
    refine G.getR X fl_X4_26 25 dX4_release_22 rfl (hS).1 (hS).2.2.2.1 ?_
    refine G.iload_n X 26 dX4_release_25 rfl rfl ?_
    refine G.aald X 27 dX4_release_26 rfl (ShSt.kc hS) (by decide) (ShSt.rc hS (by omega)) rfl (by omega) (by decide) ?_
    refine G.bipush X 29 dX4_release_27 rfl (by decide) ?_
    refine G.putI X fl_X4_90 fi_0_4 rfl 32 dX4_release_29 rfl (ShSt.c hS (by omega)).1 ((ShSt.c hS (by omega)).2 4) ?_
    refine G.vret X dX4_release_32 ⟨Nat.le_refl _, Nat.le_refl _⟩ ⟨rfl, rfl, rfl, rfl, ?_⟩
    first | exact ⟨St.rel0 hM (by omega) ⟨n6b, n7b⟩ (by omega), Off.mu (Off.rf) (by omega)⟩ | exact ⟨by unfold relR; rw [if_pos (by omega)]; exact hM.back (by omega) (by omega) ⟨n6b, n7b⟩, Off.mu (Off.mu (Off.mu (Off.mu (Off.rf) (by omega)) (by omega)) (by omega)) (by omega)⟩
  · subst hn7
    obtain ⟨hh7, hl7⟩ : hasN r j = i7 ∧ i7 < nS r := by
      unfold hasN
      omega
    subst hh7
    refine G.astore_n (ls' := [_, _, _]) X 11 dX4_release_10 rfl (by decide) rfl ?_
    refine G.aload_n X 12 dX4_release_11 rfl rfl ?_
    refine G.ifnull X 15 dX4_release_12 rfl ?_
    refine G.aload_n X 16 dX4_release_15 rfl rfl ?_
    refine G.bipush X 18 dX4_release_16 rfl (by decide) ?_
    refine G.vV1 (d := 0) X ml_X4_82 yv_X1_moveTo 21 dX4_release_18 rfl (c_X1_moveTo l D Bs _ kd rf _ _ _ (ShSt.g (hS) (by omega))) ⟨_, _, (ShSt.g (hS) (by omega)).1, rfl, rfl⟩ (by decide) ⟨Nat.zero_le _, Nat.zero_le _⟩ (Nat.le_of_ble_eq_true rfl) (fun M18 h18 => ?_)
    subst h18
    refine G.aload_n X 22 dX4_release_21 rfl rfl ?_
    refine G.getR X fl_X4_26 25 dX4_release_22 rfl (hS).1 (hS).2.2.2.1 ?_
    refine G.iload_n X 26 dX4_release_25 rfl rfl ?_
    refine G.aald X 27 dX4_release_26 rfl (ShSt.kc hS) (by decide) (ShSt.rc hS (by omega)) rfl (by omega) (by decide) ?_
    refine G.bipush X 29 dX4_release_27 rfl (by decide) ?_
    refine G.putI X fl_X4_90 fi_0_4 rfl 32 dX4_release_29 rfl (ShSt.c hS (by omega)).1 ((ShSt.c hS (by omega)).2 4) ?_
    refine G.vret X dX4_release_32 ⟨Nat.le_refl _, Nat.le_refl _⟩ ⟨rfl, rfl, rfl, rfl, ?_⟩
    first | exact ⟨St.rel0 hM (by omega) ⟨n6b, n7b⟩ (by omega), Off.mu (Off.rf) (by omega)⟩ | exact ⟨by unfold relR; rw [if_pos (by omega)]; exact hM.back (by omega) (by omega) ⟨n6b, n7b⟩, Off.mu (Off.mu (Off.mu (Off.mu (Off.rf) (by omega)) (by omega)) (by omega)) (by omega)⟩
set_option maxHeartbeats 4000000 in
set_option maxRecDepth 100000 in
theorem c_X4_causeFor (l : Launch) (D : xD) (Bs sz : Nat) (kd : xKd) (rf : xRf) (M : xM) (b j : Nat) (r : xR) (hS : ShSt kd rf b) (hV : Vk r) (hM : St M b r) (hs : j < nC r) : CtI l D Bs yX4_causeFor cX4_causeFor 3 (some .int) 2 [.ref b, .ref (b + 13 + j)] sz kd rf M (fun q M' => q = causeR r j ∧ M' = M) := by
  refine Ctr.of (yv_X4_causeFor.1.2.2.2.2) (List.forall_mem_cons.mpr ⟨rfl, List.forall_mem_cons.mpr ⟨rfl, fun _ h => absurd h List.not_mem_nil⟩⟩) (Nat.le_of_ble_eq_true rfl) [some (.ref b), some (.ref (b + 13 + j)), none] rfl ?_
  intro p e s m args below meth c X hin
  obtain ⟨-, hb1, -, -, -, -, -, hb7, hb8⟩ := hM.1
  obtain ⟨n6, n6b⟩ := hV.n6
  obtain ⟨n7, n7b⟩ := hV.n7
  obtain ⟨-, hv1, -, -, -, -⟩ := hV.1
  obtain ⟨-, -, -, -, c4, -, -, -, -⟩ := hM.2.2 (j) (by omega)
  obtain ⟨-, -, -, -, w4, -, -⟩ := hV.2.2 (j) (by omega)
  refine G.aload_n X 1 dX4_causeFor_0 rfl rfl ?_
  refine G.aload_n X 2 dX4_causeFor_1 rfl rfl ?_
  refine G.vR1 (d := 1) X ml_X4_97 yv_X4_supplyOf 5 dX4_causeFor_2 rfl (c_X4_supplyOf l D Bs _ kd rf _ _ _ (hS) (ShSt.c hS (by omega)) (by omega) (by omega)) ⟨_, _, (hS).1, rfl, rfl⟩ (by decide) ⟨Nat.zero_le _, Nat.zero_le _⟩ (Nat.le_of_ble_eq_true rfl) (fun r2 M2 h2 => ?_)
  obtain ⟨hm2, hz2⟩ := h2
  obtain rfl := hm2.symm
  rcases hz2 with ⟨hn2, hz2⟩ | ⟨i2, hi2, hj2, hn2⟩
  · subst hn2
    refine G.astore_nN (ls' := [_, _, _]) X 6 dX4_causeFor_5 rfl (by decide) rfl ?_
    refine G.aload_nN X 7 dX4_causeFor_6 rfl rfl ?_
    refine G.ifnonnullN X 10 dX4_causeFor_7 rfl ?_
    refine G.iconst X 11 dX4_causeFor_10 rfl ?_
    refine G.goto X 22 dX4_causeFor_11 (by decide) ?_
    refine G.iret X dX4_causeFor_22 ⟨Nat.le_refl _, Nat.le_refl _⟩ ⟨rfl, rfl, rfl, _, rfl, ?_⟩
    first | exact ⟨by unfold causeR; rw [if_pos (by omega)], rfl⟩ | exact ⟨by unfold causeR; rw [if_neg (by omega)]; exact caF_congr g6 g4 g2 g3 g7 hb1, rfl⟩
  · subst hn2
    obtain ⟨hh2, hl2⟩ : hasN r j = i2 ∧ i2 < nS r := by
      unfold hasN
      omega
    subst hh2
    obtain ⟨-, -, g2, g3, g4, -, g6, g7, -⟩ := hM.2.1 (hasN r j) (by omega)
    obtain ⟨-, u1, u2, u3, u4, -, -, u7⟩ := hV.2.1 (hasN r j) (by omega)
    refine G.astore_n (ls' := [_, _, _]) X 6 dX4_causeFor_5 rfl (by decide) rfl ?_
    refine G.aload_n X 7 dX4_causeFor_6 rfl rfl ?_
    refine G.ifnonnull X 14 dX4_causeFor_7 (by decide) ?_
    refine G.aload_n X 15 dX4_causeFor_14 rfl rfl ?_
    refine G.aload_n X 16 dX4_causeFor_15 rfl rfl ?_
    refine G.getI X fl_X4_9 19 dX4_causeFor_16 rfl (hS).1 ((hS).2.1 1 (by decide)) ?_
    refine G.vI1 (d := 0) X ml_X4_137 yv_X1_causeAt 22 dX4_causeFor_19 rfl (c_X1_causeAt l D Bs _ kd rf _ _ _ (ShSt.g (hS) (by omega)) (by omega) (by omega) (by omega) (by omega) (by omega)) ⟨_, _, (ShSt.g (hS) (by omega)).1, rfl, rfl⟩ (by decide) ⟨Nat.zero_le _, Nat.zero_le _⟩ (Nat.le_of_ble_eq_true rfl) (fun r19 M19 h19 => ?_)
    obtain ⟨hr19, hm19⟩ := h19
    subst hr19
    obtain rfl := hm19.symm
    refine G.iret X dX4_causeFor_22 ⟨Nat.le_refl _, Nat.le_refl _⟩ ⟨rfl, rfl, rfl, _, rfl, ?_⟩
    first | exact ⟨by unfold causeR; rw [if_pos (by omega)], rfl⟩ | exact ⟨by unfold causeR; rw [if_neg (by omega)]; exact caF_congr g6 g4 g2 g3 g7 hb1, rfl⟩
set_option maxHeartbeats 4000000 in
set_option maxRecDepth 100000 in
theorem c_X4_lightOrDarken (l : Launch) (D : xD) (Bs sz : Nat) (kd : xKd) (rf : xRf) (M : xM) (b j : Nat) (r : xR) (hS : ShSt kd rf b) (hV : Vk r) (hM : St M b r) (hs : j < nC r) : CtV l D Bs yX4_lightOrDarken cX4_lightOrDarken 4 none 3 [.ref b, .ref (b + 13 + j)] sz kd rf M (fun M' => St M' b (hrS r j) ∧ Off M M' b 25) := by
  refine Ctr.of (yv_X4_lightOrDarken.1.2.2.2.2) (List.forall_mem_cons.mpr ⟨rfl, List.forall_mem_cons.mpr ⟨rfl, fun _ h => absurd h List.not_mem_nil⟩⟩) (Nat.le_of_ble_eq_true rfl) [some (.ref b), some (.ref (b + 13 + j)), none, none] rfl ?_
  intro p e s m args below meth c X hin
  obtain ⟨-, -, hb2, -, hb4, -, hb6, hb7, hb8⟩ := hM.1
  obtain ⟨n6, n6b⟩ := hV.n6
  obtain ⟨n7, n7b⟩ := hV.n7
  obtain ⟨-, -, -, -, c4, c5, c6, c7, -⟩ := hM.2.2 (j) (by omega)
  obtain ⟨-, -, -, -, w4, w6, -⟩ := hV.2.2 (j) (by omega)
  have hcr := causeR_rng r j
  refine G.aload_n X 1 dX4_lightOrDarken_0 rfl rfl ?_
  refine G.aload_n X 2 dX4_lightOrDarken_1 rfl rfl ?_
  refine G.vI1 (d := 2) X ml_X4_152 yv_X4_causeFor 5 dX4_lightOrDarken_2 rfl (c_X4_causeFor l D Bs _ kd rf _ _ _ _ (hS) hV hM hs) ⟨_, _, (hS).1, rfl, rfl⟩ (by decide) ⟨Nat.zero_le _, Nat.zero_le _⟩ (Nat.le_of_ble_eq_true rfl) (fun r2 M2 h2 => ?_)
  obtain ⟨hr2, hm2⟩ := h2
  subst hr2
  obtain rfl := hm2.symm
  refine G.istore_n (ls' := [_, _, _, _]) X 6 dX4_lightOrDarken_5 rfl (by decide) rfl ?_
  refine G.aload_n X 7 dX4_lightOrDarken_6 rfl rfl ?_
  refine G.aload_n X 8 dX4_lightOrDarken_7 rfl rfl ?_
  refine G.vR1 (d := 1) X ml_X4_97 yv_X4_supplyOf 11 dX4_lightOrDarken_8 rfl (c_X4_supplyOf l D Bs _ kd rf _ _ _ (hS) (ShSt.c hS (by omega)) (by omega) (by omega)) ⟨_, _, (hS).1, rfl, rfl⟩ (by decide) ⟨Nat.zero_le _, Nat.zero_le _⟩ (Nat.le_of_ble_eq_true rfl) (fun r8 M8 h8 => ?_)
  obtain ⟨hm8, hz8⟩ := h8
  obtain rfl := hm8.symm
  rcases hz8 with ⟨hn8, hz8⟩ | ⟨i8, hi8, hj8, hn8⟩
  · subst hn8
    refine G.astore_nN (ls' := [_, _, _, _]) X 12 dX4_lightOrDarken_11 rfl (by decide) rfl ?_
    refine G.aload_nN X 13 dX4_lightOrDarken_12 rfl rfl ?_
    refine G.ifnonnullN X 16 dX4_lightOrDarken_13 rfl ?_
    refine G.aload_n X 17 dX4_lightOrDarken_16 rfl rfl ?_
    refine G.iload_n X 18 dX4_lightOrDarken_17 rfl rfl ?_
    rw [show causeR r j = 1 by unfold causeR; exact if_pos (by omega)]
    refine G.vV1 (d := 0) X ml_X4_156 yv_X0_darken 21 dX4_lightOrDarken_18 rfl (c_X0_darken l D Bs _ kd rf _ _ _ (ShSt.c hS (by omega))) ⟨_, _, (ShSt.c hS (by omega)).1, rfl, rfl⟩ (by decide) ⟨Nat.zero_le _, Nat.zero_le _⟩ (Nat.le_of_ble_eq_true rfl) (fun M18 h18 => ?_)
    subst h18
    refine G.goto X 95 dX4_lightOrDarken_21 (by decide) ?_
    refine G.vret X dX4_lightOrDarken_95 ⟨Nat.le_refl _, Nat.le_refl _⟩ ⟨rfl, rfl, rfl, rfl, ?_⟩
    first
      | exact ⟨by unfold hrS; rw [if_pos (by omega)]; exact hM.lit (by omega) (by omega) ⟨n6b, n7b⟩ (by omega) (by omega) (by rw [g2, g4]) (by omega) (by omega) (by rw [c7]), Off.mu (Off.mu (Off.mu (Off.mu (Off.mu (Off.mu (Off.rf) (by omega)) (by omega)) (by omega)) (by omega)) (by omega)) (by omega)⟩
      | exact ⟨by unfold hrS; rw [show causeR r j = 1 by unfold causeR; exact if_pos (by omega), if_neg (by decide)]; exact hM.dark1 (by omega) ⟨n6b, n7b⟩ (by omega), Off.mu (Off.mu (Off.rf) (by omega)) (by omega)⟩
      | exact ⟨by unfold hrS; rw [if_neg (by omega)]; exact hM.darkG (by omega) (by omega) ⟨n6b, n7b⟩ (by have := causeR_has (r := r) (s := j) (by omega); omega) (by omega) (by omega) (by first | rw [if_pos (by omega)] | rw [if_neg (by omega)]), Off.mu (Off.mu (Off.mu (Off.mu (Off.rf) (by omega)) (by omega)) (by omega)) (by omega)⟩
  · subst hn8
    obtain ⟨hh8, hl8⟩ : hasN r j = i8 ∧ i8 < nS r := by
      unfold hasN
      omega
    subst hh8
    obtain ⟨g0, -, g2, -, g4, -, g6, g7, g8⟩ := hM.2.1 (hasN r j) (by omega)
    obtain ⟨-, u1, u2, -, u4, -, -, -⟩ := hV.2.1 (hasN r j) (by omega)
    refine G.astore_n (ls' := [_, _, _, _]) X 12 dX4_lightOrDarken_11 rfl (by decide) rfl ?_
    refine G.aload_n X 13 dX4_lightOrDarken_12 rfl rfl ?_
    refine G.ifnonnull X 24 dX4_lightOrDarken_13 (by decide) ?_
    refine G.iload_n X 25 dX4_lightOrDarken_24 rfl rfl ?_
    refine G.if_ne X 61 28 dX4_lightOrDarken_25 (by decide) rfl (by omega) (fun hc25 => ?_) (fun hc25 => ?_)
    · refine G.aload_n X 62 dX4_lightOrDarken_61 rfl rfl ?_
      refine G.iload_n X 63 dX4_lightOrDarken_62 rfl rfl ?_
      refine G.vV1 (d := 0) X ml_X4_156 yv_X0_darken 66 dX4_lightOrDarken_63 rfl (c_X0_darken l D Bs _ kd rf _ _ _ (ShSt.c hS (by omega))) ⟨_, _, (ShSt.c hS (by omega)).1, rfl, rfl⟩ (by decide) ⟨Nat.zero_le _, Nat.zero_le _⟩ (Nat.le_of_ble_eq_true rfl) (fun M63 h63 => ?_)
      subst h63
      refine G.aload_n X 67 dX4_lightOrDarken_66 rfl rfl ?_
      refine G.dup X 68 dX4_lightOrDarken_67 rfl rfl ?_
      refine G.getf (v := vi (r 11)) X fl_X4_44 71 dX4_lightOrDarken_68 rfl (hS).1 ((xV_int ((hS).2.1 6 (by decide))).trans (congrArg vi ?_)) ?_
      · simp only [mu_read]
        repeat' split
        all_goals first | rfl | (exfalso; omega) | omega
      refine G.iconst X 72 dX4_lightOrDarken_71 rfl ?_
      refine G.iadd X 73 dX4_lightOrDarken_72 rfl ?_
      refine G.putI X fl_X4_44 fi_4_6 rfl 76 dX4_lightOrDarken_73 rfl (hS).1 ((hS).2.1 6 (by decide)) ?_
      refine G.aload_n X 77 dX4_lightOrDarken_76 rfl rfl ?_
      refine G.dup X 78 dX4_lightOrDarken_77 rfl rfl ?_
      refine G.getf (v := vi (fS r (hasN r j) 7)) X fl_X4_165 81 dX4_lightOrDarken_78 rfl (ShSt.g (hS) (by omega)).1 ((xV_int ((ShSt.g (hS) (by omega)).2 7)).trans (congrArg vi ?_)) ?_
      · simp only [mu_read]
        repeat' split
        all_goals first | rfl | (exfalso; omega) | omega
      refine G.iload_n X 82 dX4_lightOrDarken_81 rfl rfl ?_
      refine G.iconst X 83 dX4_lightOrDarken_82 rfl ?_
      refine G.icmp_ne X 90 86 dX4_lightOrDarken_83 (by decide) rfl (by omega) (by omega) (fun hc83 => ?_) (fun hc83 => ?_)
      · refine G.iconst X 91 dX4_lightOrDarken_90 rfl ?_
        refine G.iadd X 92 dX4_lightOrDarken_91 rfl ?_
        refine G.putI X fl_X4_165 fi_1_7 rfl 95 dX4_lightOrDarken_92 rfl (ShSt.g (hS) (by omega)).1 ((ShSt.g (hS) (by omega)).2 7) ?_
        refine G.vret X dX4_lightOrDarken_95 ⟨Nat.le_refl _, Nat.le_refl _⟩ ⟨rfl, rfl, rfl, rfl, ?_⟩
        first
          | exact ⟨by unfold hrS; rw [if_pos (by omega)]; exact hM.lit (by omega) (by omega) ⟨n6b, n7b⟩ (by omega) (by omega) (by rw [g2, g4]) (by omega) (by omega) (by rw [c7]), Off.mu (Off.mu (Off.mu (Off.mu (Off.mu (Off.mu (Off.rf) (by omega)) (by omega)) (by omega)) (by omega)) (by omega)) (by omega)⟩
          | exact ⟨by unfold hrS; rw [show causeR r j = 1 by unfold causeR; exact if_pos (by omega), if_neg (by decide)]; exact hM.dark1 (by omega) ⟨n6b, n7b⟩ (by omega), Off.mu (Off.mu (Off.rf) (by omega)) (by omega)⟩
          | exact ⟨by unfold hrS; rw [if_neg (by omega)]; exact hM.darkG (by omega) (by omega) ⟨n6b, n7b⟩ (by have := causeR_has (r := r) (s := j) (by omega); omega) (by omega) (by omega) (by first | rw [if_pos (by omega)] | rw [if_neg (by omega)]), Off.mu (Off.mu (Off.mu (Off.mu (Off.rf) (by omega)) (by omega)) (by omega)) (by omega)⟩
      · refine G.iconst X 87 dX4_lightOrDarken_86 rfl ?_
        refine G.goto X 91 dX4_lightOrDarken_87 (by decide) ?_
        refine G.iadd X 92 dX4_lightOrDarken_91 rfl ?_
        refine G.putI X fl_X4_165 fi_1_7 rfl 95 dX4_lightOrDarken_92 rfl (ShSt.g (hS) (by omega)).1 ((ShSt.g (hS) (by omega)).2 7) ?_
        refine G.vret X dX4_lightOrDarken_95 ⟨Nat.le_refl _, Nat.le_refl _⟩ ⟨rfl, rfl, rfl, rfl, ?_⟩
        first
          | exact ⟨by unfold hrS; rw [if_pos (by omega)]; exact hM.lit (by omega) (by omega) ⟨n6b, n7b⟩ (by omega) (by omega) (by rw [g2, g4]) (by omega) (by omega) (by rw [c7]), Off.mu (Off.mu (Off.mu (Off.mu (Off.mu (Off.mu (Off.rf) (by omega)) (by omega)) (by omega)) (by omega)) (by omega)) (by omega)⟩
          | exact ⟨by unfold hrS; rw [show causeR r j = 1 by unfold causeR; exact if_pos (by omega), if_neg (by decide)]; exact hM.dark1 (by omega) ⟨n6b, n7b⟩ (by omega), Off.mu (Off.mu (Off.rf) (by omega)) (by omega)⟩
          | exact ⟨by unfold hrS; rw [if_neg (by omega)]; exact hM.darkG (by omega) (by omega) ⟨n6b, n7b⟩ (by have := causeR_has (r := r) (s := j) (by omega); omega) (by omega) (by omega) (by first | rw [if_pos (by omega)] | rw [if_neg (by omega)]), Off.mu (Off.mu (Off.mu (Off.mu (Off.rf) (by omega)) (by omega)) (by omega)) (by omega)⟩
    · refine G.aload_n X 29 dX4_lightOrDarken_28 rfl rfl ?_
      refine G.vV0 (d := 0) X ml_X4_159 yv_X1_burnHour 32 dX4_lightOrDarken_29 rfl (c_X1_burnHour l D Bs _ kd rf _ _ (ShSt.g (hS) (by omega)) (by omega) (by omega)) ⟨_, _, (ShSt.g (hS) (by omega)).1, rfl, rfl⟩ (by decide) ⟨Nat.zero_le _, Nat.zero_le _⟩ (Nat.le_of_ble_eq_true rfl) (fun M29 h29 => ?_)
      subst h29
      refine G.aload_n X 33 dX4_lightOrDarken_32 rfl rfl ?_
      refine G.dup X 34 dX4_lightOrDarken_33 rfl rfl ?_
      refine G.getf (v := vi (r 4)) X fl_X4_38 37 dX4_lightOrDarken_34 rfl (hS).1 ((xV_int ((hS).2.1 4 (by decide))).trans (congrArg vi ?_)) ?_
      · simp only [mu_read]
        repeat' split
        all_goals first | rfl | (exfalso; omega) | omega
      refine G.aload_n X 38 dX4_lightOrDarken_37 rfl rfl ?_
      refine G.getf (v := vi (fS r (hasN r j) 2)) X fl_X4_70 41 dX4_lightOrDarken_38 rfl (ShSt.g (hS) (by omega)).1 ((xV_int ((ShSt.g (hS) (by omega)).2 2)).trans (congrArg vi ?_)) ?_
      · simp only [mu_read]
        repeat' split
        all_goals first | rfl | (exfalso; omega) | omega
      refine G.iadd X 42 dX4_lightOrDarken_41 rfl ?_
      refine G.putI X fl_X4_38 fi_4_4 rfl 45 dX4_lightOrDarken_42 rfl (hS).1 ((hS).2.1 4 (by decide)) ?_
      refine G.aload_n X 46 dX4_lightOrDarken_45 rfl rfl ?_
      refine G.aload_n X 47 dX4_lightOrDarken_46 rfl rfl ?_
      refine G.getf (v := vi (fS r (hasN r j) 0)) X fl_X4_64 50 dX4_lightOrDarken_47 rfl (ShSt.g (hS) (by omega)).1 ((xV_int ((ShSt.g (hS) (by omega)).2 0)).trans (congrArg vi ?_)) ?_
      · simp only [mu_read]
        repeat' split
        all_goals first | rfl | (exfalso; omega) | omega
      refine G.aload_n X 51 dX4_lightOrDarken_50 rfl rfl ?_
      refine G.getf (v := vi (r 2)) X fl_X4_15 54 dX4_lightOrDarken_51 rfl (hS).1 ((xV_int ((hS).2.1 2 (by decide))).trans (congrArg vi ?_)) ?_
      · simp only [mu_read]
        repeat' split
        all_goals first | rfl | (exfalso; omega) | omega
      refine G.imul X 55 dX4_lightOrDarken_54 rfl ?_
      refine G.vV1 (d := 0) X ml_X4_162 yv_X0_light 58 dX4_lightOrDarken_55 rfl (c_X0_light l D Bs _ kd rf _ _ _ (ShSt.c hS (by omega))) ⟨_, _, (ShSt.c hS (by omega)).1, rfl, rfl⟩ (by decide) ⟨Nat.zero_le _, Nat.zero_le _⟩ (Nat.le_of_ble_eq_true rfl) (fun M55 h55 => ?_)
      subst h55
      simp only [mu_read, Nat.reduceEqDiff, and_false, reduceIte]
      refine G.goto X 95 dX4_lightOrDarken_58 (by decide) ?_
      refine G.vret X dX4_lightOrDarken_95 ⟨Nat.le_refl _, Nat.le_refl _⟩ ⟨rfl, rfl, rfl, rfl, ?_⟩
      first
        | exact ⟨by unfold hrS; rw [if_pos (by omega)]; exact hM.lit (by omega) (by omega) ⟨n6b, n7b⟩ (by omega) (by omega) (by rw [g2, g4]) (by omega) (by omega) (by rw [c7]), Off.mu (Off.mu (Off.mu (Off.mu (Off.mu (Off.mu (Off.rf) (by omega)) (by omega)) (by omega)) (by omega)) (by omega)) (by omega)⟩
        | exact ⟨by unfold hrS; rw [show causeR r j = 1 by unfold causeR; exact if_pos (by omega), if_neg (by decide)]; exact hM.dark1 (by omega) ⟨n6b, n7b⟩ (by omega), Off.mu (Off.mu (Off.rf) (by omega)) (by omega)⟩
        | exact ⟨by unfold hrS; rw [if_neg (by omega)]; exact hM.darkG (by omega) (by omega) ⟨n6b, n7b⟩ (by have := causeR_has (r := r) (s := j) (by omega); omega) (by omega) (by omega) (by first | rw [if_pos (by omega)] | rw [if_neg (by omega)]), Off.mu (Off.mu (Off.mu (Off.mu (Off.rf) (by omega)) (by omega)) (by omega)) (by omega)⟩
