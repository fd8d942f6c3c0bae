theorem insK_nodup {key : Nat → Int} {x : Nat} : ∀ {L : List Nat}, x ∉ L → L.Nodup → (insK key x L).Nodup
  | [], _, _ => by
    unfold insK
    exact List.nodup_cons.mpr ⟨List.not_mem_nil, List.nodup_nil⟩
  | y :: t, hx, hn => by
    unfold insK
    split
    · exact List.nodup_cons.mpr ⟨hx, hn⟩
    · obtain ⟨h1, h2⟩ := List.nodup_cons.mp hn
      refine List.nodup_cons.mpr ⟨fun h => ?_, insK_nodup (fun h => hx (List.mem_cons_of_mem _ h)) h2⟩
      rcases insK_mem.mp h with e | e
      · exact hx (by rw [e]; exact List.mem_cons_self)
      · exact h1 e
theorem sortK_nodup (key : Nat → Int) (P : Nat → Bool) : ∀ n, (sortK key P n).Nodup
  | 0 => List.nodup_nil
  | n + 1 => by
    rw [sortK_s]
    split
    · exact insK_nodup (fun h => Nat.lt_irrefl _ (sortK_mem.mp h).1) (sortK_nodup key P n)
    · exact sortK_nodup key P n
def nthN (L : List Nat) (x : Int) : Int := if 0 ≤ x ∧ x < L.length then ((L.getD x.toNat 0 : Nat) : Int) else -5
theorem nthN_at {key : Nat → Int} {P : Nat → Bool} {n i : Nat} {x : Int} (hi : i < n) (hP : P i = true) (hx : (rankN key P n i : Int) = x) : nthN (sortK key P n) x = (i : Int) := by
  subst hx
  have h := sortK_rank key P n i hi hP
  have h2 : rankN key P n i < (sortK key P n).length := (List.getElem?_eq_some_iff.mp h).1
  unfold nthN
  rw [if_pos (by omega)]
  show (((sortK key P n).getD (rankN key P n i) 0 : Nat) : Int) = _
  rw [List.getD_eq_getElem?_getD, h]
  rfl
theorem nthN_no {key : Nat → Int} {P : Nat → Bool} {n : Nat} {x : Int} (h : ∀ i, i < n → P i = true → (rankN key P n i : Int) ≠ x) : nthN (sortK key P n) x = -5 := by
  unfold nthN
  by_cases hx : 0 ≤ x ∧ x < (sortK key P n).length
  · exfalso
    have hl : x.toNat < (sortK key P n).length := by omega
    have hm := sortK_mem.mp (List.getElem_mem hl)
    have hr := sortK_rank key P n _ hm.1 hm.2
    have h2 : rankN key P n (sortK key P n)[x.toNat] < (sortK key P n).length := (List.getElem?_eq_some_iff.mp hr).1
    have h3 : (sortK key P n)[rankN key P n (sortK key P n)[x.toNat]] = (sortK key P n)[x.toNat] := (List.getElem?_eq_some_iff.mp hr).2
    have h4 := (List.getElem_inj (sortK_nodup key P n)).mp h3
    exact h _ hm.1 hm.2 (by rw [h4]; omega)
  · rw [if_neg hx]
theorem rankN_s (key : Nat → Int) (P : Nat → Bool) (n s : Nat) : rankN key P (n + 1) s = rankN key P n s + (if P n = true ∧ (key s < key n ∨ key n = key s ∧ n < s) then 1 else 0) := by
  unfold rankN
  rw [cntN_s]
  by_cases h : P n = true ∧ (key s < key n ∨ key n = key s ∧ n < s)
  · rw [if_pos h, if_pos (by rw [h.1]; simpa using h.2)]
  · rw [if_neg h, if_neg (by
      intro h2
      apply h
      simpa using h2)]
set_option maxHeartbeats 1000000 in
set_option maxRecDepth 100000 in
theorem c_X6_inYard (l : Launch) (D : xD) (Bs sz : Nat) (kd : xKd) (rf : xRf) (M : xM) (y : Nat) (hY : ShY kd rf y) (hV : Vk (M (y + 1))) : CtI l D Bs yX6_inYard cX6_inYard 3 (some .int) 1 [.ref y] sz kd rf M (fun q M' => q = yardZ (M (y + 1)) (nS (M (y + 1))) ∧ M' = M) := by
  refine Ctr.of (yv_X6_inYard.1.2.2.2.2) (List.forall_mem_cons.mpr ⟨rfl, fun _ h => absurd h List.not_mem_nil⟩) (Nat.le_of_ble_eq_true rfl) [some (.ref y), none, none] rfl ?_
  intro p e s m args below meth c X hin
  obtain ⟨n6, n6b⟩ := hV.n6
  obtain ⟨n7, n7b⟩ := hV.n7
  have L4 : ∀ (k : Nat) (i : Nat) (q : Int), i + k = nS (M (y + 1)) → q = yardZ (M (y + 1)) i → G p l e (rmd 1) s m args below meth c D Bs 3 0 0 (MQ below (xQ D Bs (pI sz kd rf (fun q M' => q = yardZ (M (y + 1)) (nS (M (y + 1))) ∧ M' = M))) args s 0 0 (fun q => Bs ≤ q)) sz kd rf (M) 4 [some (.ref y), some (vi q), some (vi (i : Int))] [] := by
    intro k
    induction k with
    | zero =>
      intro i q hik hq
      obtain rfl : i = nS (M (y + 1)) := by omega
      refine G.iload_n X 5 dX6_inYard_4 rfl rfl ?_
      refine G.aload_n X 6 dX6_inYard_5 rfl rfl ?_
      refine G.getR X fl_X6_7 9 dX6_inYard_6 rfl (hY).1 (ShY.r0 hY) ?_
      refine G.bipush X 11 dX6_inYard_9 rfl (by decide) ?_
      refine G.iald X (i := 6) 12 dX6_inYard_11 rfl ((ShY.a0 hY)).1 (((ShY.a0 hY)).2 _) rfl (by omega) (by decide) ?_
      refine G.icmp_ge X 38 15 dX6_inYard_12 (by decide) rfl (by omega) (by omega) (fun hc12 => ?_) (fun hc12 => ?_)
      · refine G.iload_n X 39 dX6_inYard_38 rfl rfl ?_
        refine G.iret X dX6_inYard_39 ⟨Nat.le_refl _, Nat.le_refl _⟩ ⟨rfl, rfl, rfl, _, rfl, ?_⟩
        exact ⟨hq, rfl⟩
      · exfalso; omega
    | succ k ih =>
      intro i q hik hq
      obtain ⟨-, -, -, -, -, u5, -, -⟩ := hV.2.1 (i) (by omega)
      refine G.iload_n X 5 dX6_inYard_4 rfl rfl ?_
      refine G.aload_n X 6 dX6_inYard_5 rfl rfl ?_
      refine G.getR X fl_X6_7 9 dX6_inYard_6 rfl (hY).1 (ShY.r0 hY) ?_
      refine G.bipush X 11 dX6_inYard_9 rfl (by decide) ?_
      refine G.iald X (i := 6) 12 dX6_inYard_11 rfl ((ShY.a0 hY)).1 (((ShY.a0 hY)).2 _) rfl (by omega) (by decide) ?_
      refine G.icmp_ge X 38 15 dX6_inYard_12 (by decide) rfl (by omega) (by omega) (fun hc12 => ?_) (fun hc12 => ?_)
      · exfalso; omega
      · refine G.iload_n X 16 dX6_inYard_15 rfl rfl ?_
        refine G.aload_n X 17 dX6_inYard_16 rfl rfl ?_
        refine G.iload_n X 18 dX6_inYard_17 rfl rfl ?_
        refine G.iconst X 19 dX6_inYard_18 rfl ?_
        refine G.vI2 (d := 0) X ml_X6_48 yv_X6_ofSet 22 dX6_inYard_19 rfl (c_X6_ofSet l D Bs _ kd rf _ y (i) 5 hY (by omega) (by decide)) ⟨_, _, (hY).1, rfl, rfl⟩ (by decide) ⟨Nat.zero_le _, Nat.zero_le _⟩ (Nat.le_of_ble_eq_true rfl) (fun r19 M19 h19 => ?_)
        obtain ⟨hr19, hm19⟩ := h19
        subst hr19
        obtain rfl := hm19.symm
        refine G.if_ne X 29 25 dX6_inYard_22 (by decide) rfl (by omega) (fun hc22 => ?_) (fun hc22 => ?_)
        · refine G.iconst X 30 dX6_inYard_29 rfl ?_
          refine G.iadd X 31 dX6_inYard_30 rfl ?_
          refine G.istore_n (ls' := [_, _, _]) X 32 dX6_inYard_31 rfl (by decide) rfl ?_
          refine G.iinc (ls' := [_, _, _]) X 35 dX6_inYard_32 rfl rfl (by decide) rfl ?_
          refine G.goto X 4 dX6_inYard_35 (by decide) ?_
          refine ih (i + 1) _ (by omega) ?_
          rw [yardZ_s]
          first
            | (rw [if_pos (by omega)]; omega)
            | (rw [if_neg (by omega)]; omega)
        · refine G.iconst X 26 dX6_inYard_25 rfl ?_
          refine G.goto X 30 dX6_inYard_26 (by decide) ?_
          refine G.iadd X 31 dX6_inYard_30 rfl ?_
          refine G.istore_n (ls' := [_, _, _]) X 32 dX6_inYard_31 rfl (by decide) rfl ?_
          refine G.iinc (ls' := [_, _, _]) X 35 dX6_inYard_32 rfl rfl (by decide) rfl ?_
          refine G.goto X 4 dX6_inYard_35 (by decide) ?_
          refine ih (i + 1) _ (by omega) ?_
          rw [yardZ_s]
          first
            | (rw [if_pos (by omega)]; omega)
            | (rw [if_neg (by omega)]; omega)
  refine G.iconst X 1 dX6_inYard_0 rfl ?_
  refine G.istore_n (ls' := [_, _, _]) X 2 dX6_inYard_1 rfl (by decide) rfl ?_
  refine G.iconst X 3 dX6_inYard_2 rfl ?_
  refine G.istore_n (ls' := [_, _, _]) X 4 dX6_inYard_3 rfl (by decide) rfl ?_
  exact L4 (nS (M (y + 1))) 0 0 (by omega) rfl
set_option maxHeartbeats 1000000 in
set_option maxRecDepth 100000 in
theorem c_X6_inTanks (l : Launch) (D : xD) (Bs sz : Nat) (kd : xKd) (rf : xRf) (M : xM) (y : Nat) (hY : ShY kd rf y) (hV : Vk (M (y + 1))) : CtI l D Bs yX6_inTanks cX6_inTanks 3 (some .int) 1 [.ref y] sz kd rf M (fun q M' => q = sumN (fun i => fS (M (y + 1)) i 4) (nS (M (y + 1))) ∧ M' = M) := by
  refine Ctr.of (yv_X6_inTanks.1.2.2.2.2) (List.forall_mem_cons.mpr ⟨rfl, fun _ h => absurd h List.not_mem_nil⟩) (Nat.le_of_ble_eq_true rfl) [some (.ref y), none, none] rfl ?_
  intro p e s m args below meth c X hin
  obtain ⟨n6, n6b⟩ := hV.n6
  obtain ⟨n7, n7b⟩ := hV.n7
  have L4 : ∀ (k : Nat) (i : Nat) (q : Int), i + k = nS (M (y + 1)) → q = sumN (fun i => fS (M (y + 1)) i 4) i → G p l e (rmd 1) s m args below meth c D Bs 3 0 0 (MQ below (xQ D Bs (pI sz kd rf (fun q M' => q = sumN (fun i => fS (M (y + 1)) i 4) (nS (M (y + 1))) ∧ M' = M))) args s 0 0 (fun q => Bs ≤ q)) sz kd rf (M) 4 [some (.ref y), some (vi q), some (vi (i : Int))] [] := by
    intro k
    induction k with
    | zero =>
      intro i q hik hq
      obtain rfl : i = nS (M (y + 1)) := by omega
      refine G.iload_n X 5 dX6_inTanks_4 rfl rfl ?_
      refine G.aload_n X 6 dX6_inTanks_5 rfl rfl ?_
      refine G.getR X fl_X6_7 9 dX6_inTanks_6 rfl (hY).1 (ShY.r0 hY) ?_
      refine G.bipush X 11 dX6_inTanks_9 rfl (by decide) ?_
      refine G.iald X (i := 6) 12 dX6_inTanks_11 rfl ((ShY.a0 hY)).1 (((ShY.a0 hY)).2 _) rfl (by omega) (by decide) ?_
      refine G.icmp_ge X 30 15 dX6_inTanks_12 (by decide) rfl (by omega) (by omega) (fun hc12 => ?_) (fun hc12 => ?_)
      · refine G.iload_n X 31 dX6_inTanks_30 rfl rfl ?_
        refine G.iret X dX6_inTanks_31 ⟨Nat.le_refl _, Nat.le_refl _⟩ ⟨rfl, rfl, rfl, _, rfl, ?_⟩
        exact ⟨hq, rfl⟩
      · exfalso; omega
    | succ k ih =>
      intro i q hik hq
      refine G.iload_n X 5 dX6_inTanks_4 rfl rfl ?_
      refine G.aload_n X 6 dX6_inTanks_5 rfl rfl ?_
      refine G.getR X fl_X6_7 9 dX6_inTanks_6 rfl (hY).1 (ShY.r0 hY) ?_
      refine G.bipush X 11 dX6_inTanks_9 rfl (by decide) ?_
      refine G.iald X (i := 6) 12 dX6_inTanks_11 rfl ((ShY.a0 hY)).1 (((ShY.a0 hY)).2 _) rfl (by omega) (by decide) ?_
      refine G.icmp_ge X 30 15 dX6_inTanks_12 (by decide) rfl (by omega) (by omega) (fun hc12 => ?_) (fun hc12 => ?_)
      · exfalso; omega
      · refine G.iload_n X 16 dX6_inTanks_15 rfl rfl ?_
        refine G.aload_n X 17 dX6_inTanks_16 rfl rfl ?_
        refine G.iload_n X 18 dX6_inTanks_17 rfl rfl ?_
        refine G.iconst X 19 dX6_inTanks_18 rfl ?_
        refine G.vI2 (d := 0) X ml_X6_48 yv_X6_ofSet 22 dX6_inTanks_19 rfl (c_X6_ofSet l D Bs _ kd rf _ y (i) 4 hY (by omega) (by decide)) ⟨_, _, (hY).1, rfl, rfl⟩ (by decide) ⟨Nat.zero_le _, Nat.zero_le _⟩ (Nat.le_of_ble_eq_true rfl) (fun r19 M19 h19 => ?_)
        obtain ⟨hr19, hm19⟩ := h19
        subst hr19
        obtain rfl := hm19.symm
        refine G.iadd X 23 dX6_inTanks_22 rfl ?_
        refine G.istore_n (ls' := [_, _, _]) X 24 dX6_inTanks_23 rfl (by decide) rfl ?_
        refine G.iinc (ls' := [_, _, _]) X 27 dX6_inTanks_24 rfl rfl (by decide) rfl ?_
        refine G.goto X 4 dX6_inTanks_27 (by decide) ?_
        refine ih (i + 1) _ (by omega) ?_
        rw [sumN_s, ← hq]
  refine G.iconst X 1 dX6_inTanks_0 rfl ?_
  refine G.istore_n (ls' := [_, _, _]) X 2 dX6_inTanks_1 rfl (by decide) rfl ?_
  refine G.iconst X 3 dX6_inTanks_2 rfl ?_
  refine G.istore_n (ls' := [_, _, _]) X 4 dX6_inTanks_3 rfl (by decide) rfl ?_
  exact L4 (nS (M (y + 1))) 0 0 (by omega) rfl
set_option maxHeartbeats 1000000 in
set_option maxRecDepth 100000 in
theorem c_X6_openSites (l : Launch) (D : xD) (Bs sz : Nat) (kd : xKd) (rf : xRf) (M : xM) (y : Nat) (hY : ShY kd rf y) (hV : Vk (M (y + 1))) : CtI l D Bs yX6_openSites cX6_openSites 3 (some .int) 2 [.ref y] sz kd rf M (fun q M' => q = ((needL (M (y + 1))).length : Int) ∧ M' = M) := by
  refine Ctr.of (yv_X6_openSites.1.2.2.2.2) (List.forall_mem_cons.mpr ⟨rfl, fun _ h => absurd h List.not_mem_nil⟩) (Nat.le_of_ble_eq_true rfl) [some (.ref y), none, none] rfl ?_
  intro p e s m args below meth c X hin
  obtain ⟨n6, n6b⟩ := hV.n6
  obtain ⟨n7, n7b⟩ := hV.n7
  obtain ⟨hv0, -, -, -, -, -⟩ := hV.1
  have L4 : ∀ (k : Nat) (i : Nat) (q : Int), i + k = nC (M (y + 1)) → q = (cntN (openB (M (y + 1))) i : Int) → G p l e (rmd 2) s m args below meth c D Bs 3 0 0 (MQ below (xQ D Bs (pI sz kd rf (fun q M' => q = ((needL (M (y + 1))).length : Int) ∧ M' = M))) args s 0 0 (fun q => Bs ≤ q)) sz kd rf (M) 4 [some (.ref y), some (vi q), some (vi (i : Int))] [] := by
    intro k
    induction k with
    | zero =>
      intro i q hik hq
      obtain rfl : i = nC (M (y + 1)) := by omega
      refine G.iload_n X 5 dX6_openSites_4 rfl rfl ?_
      refine G.aload_n X 6 dX6_openSites_5 rfl rfl ?_
      refine G.getR X fl_X6_7 9 dX6_openSites_6 rfl (hY).1 (ShY.r0 hY) ?_
      refine G.bipush X 11 dX6_openSites_9 rfl (by decide) ?_
      refine G.iald X (i := 7) 12 dX6_openSites_11 rfl ((ShY.a0 hY)).1 (((ShY.a0 hY)).2 _) rfl (by omega) (by decide) ?_
      refine G.icmp_ge X 37 15 dX6_openSites_12 (by decide) rfl (by omega) (by omega) (fun hc12 => ?_) (fun hc12 => ?_)
      · refine G.iload_n X 38 dX6_openSites_37 rfl rfl ?_
        refine G.iret X dX6_openSites_38 ⟨Nat.le_refl _, Nat.le_refl _⟩ ⟨rfl, rfl, rfl, _, rfl, ?_⟩
        exact ⟨by unfold needL; rw [hq, sortK_len], rfl⟩
      · exfalso; omega
    | succ k ih =>
      intro i q hik hq
      obtain ⟨-, -, w2, w3, -, -, -⟩ := hV.2.2 (i) (by omega)
      refine G.iload_n X 5 dX6_openSites_4 rfl rfl ?_
      refine G.aload_n X 6 dX6_openSites_5 rfl rfl ?_
      refine G.getR X fl_X6_7 9 dX6_openSites_6 rfl (hY).1 (ShY.r0 hY) ?_
      refine G.bipush X 11 dX6_openSites_9 rfl (by decide) ?_
      refine G.iald X (i := 7) 12 dX6_openSites_11 rfl ((ShY.a0 hY)).1 (((ShY.a0 hY)).2 _) rfl (by omega) (by decide) ?_
      refine G.icmp_ge X 37 15 dX6_openSites_12 (by decide) rfl (by omega) (by omega) (fun hc12 => ?_) (fun hc12 => ?_)
      · exfalso; omega
      · refine G.iload_n X 16 dX6_openSites_15 rfl rfl ?_
        refine G.aload_n X 17 dX6_openSites_16 rfl rfl ?_
        refine G.iload_n X 18 dX6_openSites_17 rfl rfl ?_
        refine G.vI1 (d := 1) X ml_X6_101 yv_X6_isOpen 21 dX6_openSites_18 rfl (c_X6_isOpen l D Bs _ kd rf _ y (i) hY hV (by omega)) ⟨_, _, (hY).1, rfl, rfl⟩ (by decide) ⟨Nat.zero_le _, Nat.zero_le _⟩ (Nat.le_of_ble_eq_true rfl) (fun r18 M18 h18 => ?_)
        obtain ⟨hr18, hm18⟩ := h18
        subst hr18
        obtain rfl := hm18.symm
        refine G.ifb_eq X 28 24 dX6_openSites_21 (by decide) rfl (fun hc21 => ?_) (fun hc21 => ?_)
        · refine G.iconst X 29 dX6_openSites_28 rfl ?_
          refine G.iadd X 30 dX6_openSites_29 rfl ?_
          refine G.istore_n (ls' := [_, _, _]) X 31 dX6_openSites_30 rfl (by decide) rfl ?_
          refine G.iinc (ls' := [_, _, _]) X 34 dX6_openSites_31 rfl rfl (by decide) rfl ?_
          refine G.goto X 4 dX6_openSites_34 (by decide) ?_
          refine ih (i + 1) _ (by omega) ?_
          rw [cntN_s]
          first
            | (rw [if_pos (openB_iff.mpr (by omega))]; omega)
            | (rw [if_neg (fun q => by have := openB_iff.mp q; omega)]; omega)
        · refine G.iconst X 25 dX6_openSites_24 rfl ?_
          refine G.goto X 29 dX6_openSites_25 (by decide) ?_
          refine G.iadd X 30 dX6_openSites_29 rfl ?_
          refine G.istore_n (ls' := [_, _, _]) X 31 dX6_openSites_30 rfl (by decide) rfl ?_
          refine G.iinc (ls' := [_, _, _]) X 34 dX6_openSites_31 rfl rfl (by decide) rfl ?_
          refine G.goto X 4 dX6_openSites_34 (by decide) ?_
          refine ih (i + 1) _ (by omega) ?_
          rw [cntN_s]
          first
            | (rw [if_pos (openB_iff.mpr (by omega))]; omega)
            | (rw [if_neg (fun q => by have := openB_iff.mp q; omega)]; omega)
  refine G.iconst X 1 dX6_openSites_0 rfl ?_
  refine G.istore_n (ls' := [_, _, _]) X 2 dX6_openSites_1 rfl (by decide) rfl ?_
  refine G.iconst X 3 dX6_openSites_2 rfl ?_
  refine G.istore_n (ls' := [_, _, _]) X 4 dX6_openSites_3 rfl (by decide) rfl ?_
  exact L4 (nC (M (y + 1))) 0 0 (by omega) rfl
set_option maxHeartbeats 1000000 in
set_option maxRecDepth 100000 in
theorem c_X6_yardFor (l : Launch) (D : xD) (Bs sz : Nat) (kd : xKd) (rf : xRf) (M : xM) (y j : Nat) (hY : ShY kd rf y) (hV : Vk (M (y + 1))) (hj : j < nC (M (y + 1))) : CtI l D Bs yX6_yardFor cX6_yardFor 5 (some .int) 2 [.ref y, vi (j : Int)] sz kd rf M (fun q M' => q = yardF (M (y + 1)) j (nS (M (y + 1))) ∧ M' = M) := by
  refine Ctr.of (yv_X6_yardFor.1.2.2.2.2) (List.forall_mem_cons.mpr ⟨rfl, List.forall_mem_cons.mpr ⟨rfl, fun _ h => absurd h List.not_mem_nil⟩⟩) (Nat.le_of_ble_eq_true rfl) [some (.ref y), some (vi (j : Int)), none, none, none] rfl ?_
  intro p e s m args below meth c X hin
  obtain ⟨n6, n6b⟩ := hV.n6
  obtain ⟨n7, n7b⟩ := hV.n7
  obtain ⟨-, w1, -, -, -, -, -⟩ := hV.2.2 (j) (by omega)
  have L5 : ∀ (k : Nat) (i : Nat) (q : Int), i + k = nS (M (y + 1)) → q = yardF (M (y + 1)) j i → G p l e (rmd 2) s m args below meth c D Bs 5 0 0 (MQ below (xQ D Bs (pI sz kd rf (fun q M' => q = yardF (M (y + 1)) j (nS (M (y + 1))) ∧ M' = M))) args s 0 0 (fun q => Bs ≤ q)) sz kd rf (M) 5 [some (.ref y), some (vi (j : Int)), some (vi q), some (vi (i : Int)), none] [] := by
    intro k
    induction k with
    | zero =>
      intro i q hik hq
      obtain rfl : i = nS (M (y + 1)) := by omega
      refine G.iload_n X 6 dX6_yardFor_5 rfl rfl ?_
      refine G.aload_n X 7 dX6_yardFor_6 rfl rfl ?_
      refine G.getR X fl_X6_7 10 dX6_yardFor_7 rfl (hY).1 (ShY.r0 hY) ?_
      refine G.bipush X 12 dX6_yardFor_10 rfl (by decide) ?_
      refine G.iald X (i := 6) 13 dX6_yardFor_12 rfl ((ShY.a0 hY)).1 (((ShY.a0 hY)).2 _) rfl (by omega) (by decide) ?_
      refine G.icmp_ge X 79 16 dX6_yardFor_13 (by decide) rfl (by omega) (by omega) (fun hc13 => ?_) (fun hc13 => ?_)
      · refine G.iload_n X 80 dX6_yardFor_79 rfl rfl ?_
        refine G.iret X dX6_yardFor_80 ⟨Nat.le_refl _, Nat.le_refl _⟩ ⟨rfl, rfl, rfl, _, rfl, ?_⟩
        exact ⟨hq, rfl⟩
      · exfalso; omega
    | succ k ih =>
      intro i q hik hq
      obtain ⟨v0, -, -, -, -, v5, -, -⟩ := hV.2.1 (i) (by omega)
      have hyl := yardF_lim (M (y + 1)) j i
      refine G.iload_n X 6 dX6_yardFor_5 rfl rfl ?_
      refine G.aload_n X 7 dX6_yardFor_6 rfl rfl ?_
      refine G.getR X fl_X6_7 10 dX6_yardFor_7 rfl (hY).1 (ShY.r0 hY) ?_
      refine G.bipush X 12 dX6_yardFor_10 rfl (by decide) ?_
      refine G.iald X (i := 6) 13 dX6_yardFor_12 rfl ((ShY.a0 hY)).1 (((ShY.a0 hY)).2 _) rfl (by omega) (by decide) ?_
      refine G.icmp_ge X 79 16 dX6_yardFor_13 (by decide) rfl (by omega) (by omega) (fun hc13 => ?_) (fun hc13 => ?_)
      · exfalso; omega
      · refine G.aload_n X 17 dX6_yardFor_16 rfl rfl ?_
        refine G.iload_n X 18 dX6_yardFor_17 rfl rfl ?_
        refine G.iconst X 19 dX6_yardFor_18 rfl ?_
        refine G.vI2 (d := 0) X ml_X6_48 yv_X6_ofSet 22 dX6_yardFor_19 rfl (c_X6_ofSet l D Bs _ kd rf _ y (i) 5 hY (by omega) (by decide)) ⟨_, _, (hY).1, rfl, rfl⟩ (by decide) ⟨Nat.zero_le _, Nat.zero_le _⟩ (Nat.le_of_ble_eq_true rfl) (fun r19 M19 h19 => ?_)
        obtain ⟨hr19, hm19⟩ := h19
        subst hr19
        obtain rfl := hm19.symm
        refine G.if_ne X 38 25 dX6_yardFor_22 (by decide) rfl (by omega) (fun hc22 => ?_) (fun hc22 => ?_)
        · refine G.iconst X 39 dX6_yardFor_38 rfl ?_
          refine G.istore (ls' := [_, _, _, _, _]) X 41 dX6_yardFor_39 rfl (by decide) rfl ?_
          refine G.iload X 43 dX6_yardFor_41 rfl rfl ?_
          refine G.if_eq X 71 46 dX6_yardFor_43 (by decide) rfl (by omega) (fun hc43 => ?_) (fun hc43 => ?_)
          · refine G.iload_n X 72 dX6_yardFor_71 rfl rfl ?_
            refine G.istore_n (ls' := [_, _, _, _, _]) X 73 dX6_yardFor_72 rfl (by decide) rfl ?_
            refine G.iinc (ls' := [_, _, _, _, _]) X 76 dX6_yardFor_73 rfl rfl (by decide) rfl ?_
            refine G.goto X 5 dX6_yardFor_76 (by decide) ?_
            refine G.drop 4 ?_
            refine ih (i + 1) _ (by omega) ?_
            rw [yardF_s]
            first | (rw [if_pos (by omega)]; done) | (rw [if_neg (by omega)]; exact hq)
          · exact absurd hc43 (by decide)
        · refine G.aload_n X 26 dX6_yardFor_25 rfl rfl ?_
          refine G.iload_n X 27 dX6_yardFor_26 rfl rfl ?_
          refine G.iload_n X 28 dX6_yardFor_27 rfl rfl ?_
          refine G.vI2 (d := 1) X ml_X6_87 yv_X6_fits 31 dX6_yardFor_28 rfl (c_X6_fits l D Bs _ kd rf _ y (i) (j) hY hV (by omega) (by omega)) ⟨_, _, (hY).1, rfl, rfl⟩ (by decide) ⟨Nat.zero_le _, Nat.zero_le _⟩ (Nat.le_of_ble_eq_true rfl) (fun r28 M28 h28 => ?_)
          obtain ⟨hr28, hm28⟩ := h28
          subst hr28
          obtain rfl := hm28.symm
          refine G.ifb_eq X 38 34 dX6_yardFor_31 (by decide) rfl (fun hc31 => ?_) (fun hc31 => ?_)
          · refine G.iconst X 39 dX6_yardFor_38 rfl ?_
            refine G.istore (ls' := [_, _, _, _, _]) X 41 dX6_yardFor_39 rfl (by decide) rfl ?_
            refine G.iload X 43 dX6_yardFor_41 rfl rfl ?_
            refine G.if_eq X 71 46 dX6_yardFor_43 (by decide) rfl (by omega) (fun hc43 => ?_) (fun hc43 => ?_)
            · refine G.iload_n X 72 dX6_yardFor_71 rfl rfl ?_
              refine G.istore_n (ls' := [_, _, _, _, _]) X 73 dX6_yardFor_72 rfl (by decide) rfl ?_
              refine G.iinc (ls' := [_, _, _, _, _]) X 76 dX6_yardFor_73 rfl rfl (by decide) rfl ?_
              refine G.goto X 5 dX6_yardFor_76 (by decide) ?_
              refine G.drop 4 ?_
              refine ih (i + 1) _ (by omega) ?_
              rw [yardF_s]
              first | (rw [if_pos (by omega)]; done) | (rw [if_neg (by omega)]; exact hq)
            · exact absurd hc43 (by decide)
          · refine G.iconst X 35 dX6_yardFor_34 rfl ?_
            refine G.goto X 39 dX6_yardFor_35 (by decide) ?_
            refine G.istore (ls' := [_, _, _, _, _]) X 41 dX6_yardFor_39 rfl (by decide) rfl ?_
            refine G.iload X 43 dX6_yardFor_41 rfl rfl ?_
            refine G.if_eq X 71 46 dX6_yardFor_43 (by decide) rfl (by omega) (fun hc43 => ?_) (fun hc43 => ?_)
            · exact absurd hc43 (by decide)
            · refine G.iload_n X 47 dX6_yardFor_46 rfl rfl ?_
              refine G.bipush X 49 dX6_yardFor_47 rfl (by decide) ?_
              refine G.icmp_eq X 67 52 dX6_yardFor_49 (by decide) rfl (by omega) (by omega) (fun hc49 => ?_) (fun hc49 => ?_)
              · refine G.iload_n X 68 dX6_yardFor_67 rfl rfl ?_
                refine G.goto X 72 dX6_yardFor_68 (by decide) ?_
                refine G.istore_n (ls' := [_, _, _, _, _]) X 73 dX6_yardFor_72 rfl (by decide) rfl ?_
                refine G.iinc (ls' := [_, _, _, _, _]) X 76 dX6_yardFor_73 rfl rfl (by decide) rfl ?_
                refine G.goto X 5 dX6_yardFor_76 (by decide) ?_
                refine G.drop 4 ?_
                refine ih (i + 1) _ (by omega) ?_
                rw [yardF_s]
                first | (rw [if_pos (by omega)]; done) | (rw [if_neg (by omega)]; exact hq)
              · obtain ⟨w, hw, hwi, -⟩ := yardF_get (r := (M (y + 1))) (s := j) (n := i) (by omega)
                have hwt : fS (M (y + 1)) (yardF (M (y + 1)) j i).toNat 0 = fS (M (y + 1)) w 0 := by rw [hw]; rfl
                obtain ⟨z0, -, -, -, -, -, -, -⟩ := hV.2.1 (w) (by omega)
                obtain rfl : q = (w : Int) := by omega
                refine G.aload_n X 53 dX6_yardFor_52 rfl rfl ?_
                refine G.iload_n X 54 dX6_yardFor_53 rfl rfl ?_
                refine G.iconst X 55 dX6_yardFor_54 rfl ?_
                refine G.vI2 (d := 0) X ml_X6_48 yv_X6_ofSet 58 dX6_yardFor_55 rfl (c_X6_ofSet l D Bs _ kd rf _ y (i) 0 hY (by omega) (by decide)) ⟨_, _, (hY).1, rfl, rfl⟩ (by decide) ⟨Nat.zero_le _, Nat.zero_le _⟩ (Nat.le_of_ble_eq_true rfl) (fun r55 M55 h55 => ?_)
                obtain ⟨hr55, hm55⟩ := h55
                subst hr55
                obtain rfl := hm55.symm
                refine G.aload_n X 59 dX6_yardFor_58 rfl rfl ?_
                refine G.iload_n X 60 dX6_yardFor_59 rfl rfl ?_
                refine G.iconst X 61 dX6_yardFor_60 rfl ?_
                refine G.vI2 (d := 0) X ml_X6_48 yv_X6_ofSet 64 dX6_yardFor_61 rfl (c_X6_ofSet l D Bs _ kd rf _ y w 0 hY (by omega) (by decide)) ⟨_, _, (hY).1, rfl, rfl⟩ (by decide) ⟨Nat.zero_le _, Nat.zero_le _⟩ (Nat.le_of_ble_eq_true rfl) (fun r61 M61 h61 => ?_)
                obtain ⟨hr61, hm61⟩ := h61
                subst hr61
                obtain rfl := hm61.symm
                refine G.icmp_ge X 71 67 dX6_yardFor_64 (by decide) rfl (by omega) (by omega) (fun hc64 => ?_) (fun hc64 => ?_)
                · refine G.iload_n X 72 dX6_yardFor_71 rfl rfl ?_
                  refine G.istore_n (ls' := [_, _, _, _, _]) X 73 dX6_yardFor_72 rfl (by decide) rfl ?_
                  refine G.iinc (ls' := [_, _, _, _, _]) X 76 dX6_yardFor_73 rfl rfl (by decide) rfl ?_
                  refine G.goto X 5 dX6_yardFor_76 (by decide) ?_
                  refine G.drop 4 ?_
                  refine ih (i + 1) _ (by omega) ?_
                  rw [yardF_s]
                  first | (rw [if_pos (by omega)]; done) | (rw [if_neg (by omega)]; exact hq)
                · refine G.iload_n X 68 dX6_yardFor_67 rfl rfl ?_
                  refine G.goto X 72 dX6_yardFor_68 (by decide) ?_
                  refine G.istore_n (ls' := [_, _, _, _, _]) X 73 dX6_yardFor_72 rfl (by decide) rfl ?_
                  refine G.iinc (ls' := [_, _, _, _, _]) X 76 dX6_yardFor_73 rfl rfl (by decide) rfl ?_
                  refine G.goto X 5 dX6_yardFor_76 (by decide) ?_
                  refine G.drop 4 ?_
                  refine ih (i + 1) _ (by omega) ?_
                  rw [yardF_s]
                  first | (rw [if_pos (by omega)]; done) | (rw [if_neg (by omega)]; exact hq)
  refine G.bipush X 2 dX6_yardFor_0 rfl (by decide) ?_
  refine G.istore_n (ls' := [_, _, _, _, _]) X 3 dX6_yardFor_2 rfl (by decide) rfl ?_
  refine G.iconst X 4 dX6_yardFor_3 rfl ?_
  refine G.istore_n (ls' := [_, _, _, _, _]) X 5 dX6_yardFor_4 rfl (by decide) rfl ?_
  exact L5 (nS (M (y + 1))) 0 (-5) (by omega) rfl
set_option maxHeartbeats 1000000 in
set_option maxRecDepth 100000 in
theorem c_X6_partnerOf (l : Launch) (D : xD) (Bs sz : Nat) (kd : xKd) (rf : xRf) (M : xM) (y j : Nat) (hY : ShY kd rf y) (hV : Vk (M (y + 1))) (hj : j < nC (M (y + 1))) : CtI l D Bs yX6_partnerOf cX6_partnerOf 5 (some .int) 3 [.ref y, vi (j : Int)] sz kd rf M (fun q M' => q = partF (M (y + 1)) j (nC (M (y + 1))) ∧ M' = M) := by
  refine Ctr.of (yv_X6_partnerOf.1.2.2.2.2) (List.forall_mem_cons.mpr ⟨rfl, List.forall_mem_cons.mpr ⟨rfl, fun _ h => absurd h List.not_mem_nil⟩⟩) (Nat.le_of_ble_eq_true rfl) [some (.ref y), some (vi (j : Int)), none, none, none] rfl ?_
  intro p e s m args below meth c X hin
  obtain ⟨n6, n6b⟩ := hV.n6
  obtain ⟨n7, n7b⟩ := hV.n7
  obtain ⟨-, w1, -, -, -, -, -⟩ := hV.2.2 (j) (by omega)
  have L5 : ∀ (k : Nat) (i : Nat) (q : Int), i + k = nC (M (y + 1)) → q = partF (M (y + 1)) j i → G p l e (rmd 3) s m args below meth c D Bs 5 0 0 (MQ below (xQ D Bs (pI sz kd rf (fun q M' => q = partF (M (y + 1)) j (nC (M (y + 1))) ∧ M' = M))) args s 0 0 (fun q => Bs ≤ q)) sz kd rf (M) 5 [some (.ref y), some (vi (j : Int)), some (vi q), some (vi (i : Int)), none] [] := by
    intro k
    induction k with
    | zero =>
      intro i q hik hq
      obtain rfl : i = nC (M (y + 1)) := by omega
      refine G.iload_n X 6 dX6_partnerOf_5 rfl rfl ?_
      refine G.aload_n X 7 dX6_partnerOf_6 rfl rfl ?_
      refine G.getR X fl_X6_7 10 dX6_partnerOf_7 rfl (hY).1 (ShY.r0 hY) ?_
      refine G.bipush X 12 dX6_partnerOf_10 rfl (by decide) ?_
      refine G.iald X (i := 7) 13 dX6_partnerOf_12 rfl ((ShY.a0 hY)).1 (((ShY.a0 hY)).2 _) rfl (by omega) (by decide) ?_
      refine G.icmp_ge X 100 16 dX6_partnerOf_13 (by decide) rfl (by omega) (by omega) (fun hc13 => ?_) (fun hc13 => ?_)
      · refine G.iload_n X 101 dX6_partnerOf_100 rfl rfl ?_
        refine G.iret X dX6_partnerOf_101 ⟨Nat.le_refl _, Nat.le_refl _⟩ ⟨rfl, rfl, rfl, _, rfl, ?_⟩
        exact ⟨hq, rfl⟩
      · exfalso; omega
    | succ k ih =>
      intro i q hik hq
      obtain ⟨-, -, -, -, v4, -, -⟩ := hV.2.2 (i) (by omega)
      have hpl := partF_lim (M (y + 1)) j i
      have hyl := yardF_lim (M (y + 1)) i (nS (M (y + 1)))
      refine G.iload_n X 6 dX6_partnerOf_5 rfl rfl ?_
      refine G.aload_n X 7 dX6_partnerOf_6 rfl rfl ?_
      refine G.getR X fl_X6_7 10 dX6_partnerOf_7 rfl (hY).1 (ShY.r0 hY) ?_
      refine G.bipush X 12 dX6_partnerOf_10 rfl (by decide) ?_
      refine G.iald X (i := 7) 13 dX6_partnerOf_12 rfl ((ShY.a0 hY)).1 (((ShY.a0 hY)).2 _) rfl (by omega) (by decide) ?_
      refine G.icmp_ge X 100 16 dX6_partnerOf_13 (by decide) rfl (by omega) (by omega) (fun hc13 => ?_) (fun hc13 => ?_)
      · exfalso; omega
      · refine G.aload_n X 17 dX6_partnerOf_16 rfl rfl ?_
        refine G.iload_n X 18 dX6_partnerOf_17 rfl rfl ?_
        refine G.vI1 (d := 1) X ml_X6_81 yv_X6_setAt 21 dX6_partnerOf_18 rfl (c_X6_setAt l D Bs _ kd rf _ y (i) hY (by omega)) ⟨_, _, (hY).1, rfl, rfl⟩ (by decide) ⟨Nat.zero_le _, Nat.zero_le _⟩ (Nat.le_of_ble_eq_true rfl) (fun r18 M18 h18 => ?_)
        obtain ⟨hr18, hm18⟩ := h18
        subst hr18
        obtain rfl := hm18.symm
        refine G.if_lt X 51 24 dX6_partnerOf_21 (by decide) rfl (by omega) (fun hc21 => ?_) (fun hc21 => ?_)
        · refine G.iconst X 52 dX6_partnerOf_51 rfl ?_
          refine G.istore (ls' := [_, _, _, _, _]) X 54 dX6_partnerOf_52 rfl (by decide) rfl ?_
          refine G.iload X 56 dX6_partnerOf_54 rfl rfl ?_
          refine G.if_eq X 92 59 dX6_partnerOf_56 (by decide) rfl (by omega) (fun hc56 => ?_) (fun hc56 => ?_)
          · refine G.iload_n X 93 dX6_partnerOf_92 rfl rfl ?_
            refine G.istore_n (ls' := [_, _, _, _, _]) X 94 dX6_partnerOf_93 rfl (by decide) rfl ?_
            refine G.iinc (ls' := [_, _, _, _, _]) X 97 dX6_partnerOf_94 rfl rfl (by decide) rfl ?_
            refine G.goto X 5 dX6_partnerOf_97 (by decide) ?_
            refine G.drop 4 ?_
            refine ih (i + 1) _ (by omega) ?_
            rw [partF_s]
            first | (rw [if_pos (by omega)]; done) | (rw [if_neg (by omega)]; exact hq)
          · exact absurd hc56 (by decide)
        · obtain ⟨hk1, hk2⟩ := hasN_lt hV (show i < nC (M (y + 1)) by omega) (by omega)
          obtain ⟨t0, -, -, -, -, -, -, -⟩ := hV.2.1 (hasN (M (y + 1)) i) (by omega)
          refine G.aload_n X 25 dX6_partnerOf_24 rfl rfl ?_
          refine G.aload_n X 26 dX6_partnerOf_25 rfl rfl ?_
          refine G.iload_n X 27 dX6_partnerOf_26 rfl rfl ?_
          refine G.vI1 (d := 1) X ml_X6_81 yv_X6_setAt 30 dX6_partnerOf_27 rfl (c_X6_setAt l D Bs _ kd rf _ y (i) hY (by omega)) ⟨_, _, (hY).1, rfl, rfl⟩ (by decide) ⟨Nat.zero_le _, Nat.zero_le _⟩ (Nat.le_of_ble_eq_true rfl) (fun r27 M27 h27 => ?_)
          obtain ⟨hr27, hm27⟩ := h27
          obtain rfl : r27 = (hasN (M (y + 1)) i : Int) := by omega
          obtain rfl := hm27.symm
          refine G.iload_n X 31 dX6_partnerOf_30 rfl rfl ?_
          refine G.vI2 (d := 1) X ml_X6_87 yv_X6_fits 34 dX6_partnerOf_31 rfl (c_X6_fits l D Bs _ kd rf _ y (hasN (M (y + 1)) i) (j) hY hV (by omega) (by omega)) ⟨_, _, (hY).1, rfl, rfl⟩ (by decide) ⟨Nat.zero_le _, Nat.zero_le _⟩ (Nat.le_of_ble_eq_true rfl) (fun r31 M31 h31 => ?_)
          obtain ⟨hr31, hm31⟩ := h31
          subst hr31
          obtain rfl := hm31.symm
          refine G.ifb_eq X 51 37 dX6_partnerOf_34 (by decide) rfl (fun hc34 => ?_) (fun hc34 => ?_)
          · refine G.iconst X 52 dX6_partnerOf_51 rfl ?_
            refine G.istore (ls' := [_, _, _, _, _]) X 54 dX6_partnerOf_52 rfl (by decide) rfl ?_
            refine G.iload X 56 dX6_partnerOf_54 rfl rfl ?_
            refine G.if_eq X 92 59 dX6_partnerOf_56 (by decide) rfl (by omega) (fun hc56 => ?_) (fun hc56 => ?_)
            · refine G.iload_n X 93 dX6_partnerOf_92 rfl rfl ?_
              refine G.istore_n (ls' := [_, _, _, _, _]) X 94 dX6_partnerOf_93 rfl (by decide) rfl ?_
              refine G.iinc (ls' := [_, _, _, _, _]) X 97 dX6_partnerOf_94 rfl rfl (by decide) rfl ?_
              refine G.goto X 5 dX6_partnerOf_97 (by decide) ?_
              refine G.drop 4 ?_
              refine ih (i + 1) _ (by omega) ?_
              rw [partF_s]
              first | (rw [if_pos (by omega)]; done) | (rw [if_neg (by omega)]; exact hq)
            · exact absurd hc56 (by decide)
          · refine G.aload_n X 38 dX6_partnerOf_37 rfl rfl ?_
            refine G.iload_n X 39 dX6_partnerOf_38 rfl rfl ?_
            refine G.vI1 (d := 2) X ml_X6_110 yv_X6_yardFor 42 dX6_partnerOf_39 rfl (c_X6_yardFor l D Bs _ kd rf _ y (i) hY hV (by omega)) ⟨_, _, (hY).1, rfl, rfl⟩ (by decide) ⟨Nat.zero_le _, Nat.zero_le _⟩ (Nat.le_of_ble_eq_true rfl) (fun r39 M39 h39 => ?_)
            obtain ⟨hr39, hm39⟩ := h39
            subst hr39
            obtain rfl := hm39.symm
            refine G.bipush X 44 dX6_partnerOf_42 rfl (by decide) ?_
            refine G.icmp_eq X 51 47 dX6_partnerOf_44 (by decide) rfl (by omega) (by omega) (fun hc44 => ?_) (fun hc44 => ?_)
            · refine G.iconst X 52 dX6_partnerOf_51 rfl ?_
              refine G.istore (ls' := [_, _, _, _, _]) X 54 dX6_partnerOf_52 rfl (by decide) rfl ?_
              refine G.iload X 56 dX6_partnerOf_54 rfl rfl ?_
              refine G.if_eq X 92 59 dX6_partnerOf_56 (by decide) rfl (by omega) (fun hc56 => ?_) (fun hc56 => ?_)
              · refine G.iload_n X 93 dX6_partnerOf_92 rfl rfl ?_
                refine G.istore_n (ls' := [_, _, _, _, _]) X 94 dX6_partnerOf_93 rfl (by decide) rfl ?_
                refine G.iinc (ls' := [_, _, _, _, _]) X 97 dX6_partnerOf_94 rfl rfl (by decide) rfl ?_
                refine G.goto X 5 dX6_partnerOf_97 (by decide) ?_
                refine G.drop 4 ?_
                refine ih (i + 1) _ (by omega) ?_
                rw [partF_s]
                first | (rw [if_pos (by omega)]; done) | (rw [if_neg (by omega)]; exact hq)
              · exact absurd hc56 (by decide)
            · refine G.iconst X 48 dX6_partnerOf_47 rfl ?_
              refine G.goto X 52 dX6_partnerOf_48 (by decide) ?_
              refine G.istore (ls' := [_, _, _, _, _]) X 54 dX6_partnerOf_52 rfl (by decide) rfl ?_
              refine G.iload X 56 dX6_partnerOf_54 rfl rfl ?_
              refine G.if_eq X 92 59 dX6_partnerOf_56 (by decide) rfl (by omega) (fun hc56 => ?_) (fun hc56 => ?_)
              · exact absurd hc56 (by decide)
              · refine G.iload_n X 60 dX6_partnerOf_59 rfl rfl ?_
                refine G.bipush X 62 dX6_partnerOf_60 rfl (by decide) ?_
                refine G.icmp_eq X 88 65 dX6_partnerOf_62 (by decide) rfl (by omega) (by omega) (fun hc62 => ?_) (fun hc62 => ?_)
                · refine G.iload_n X 89 dX6_partnerOf_88 rfl rfl ?_
                  refine G.goto X 93 dX6_partnerOf_89 (by decide) ?_
                  refine G.istore_n (ls' := [_, _, _, _, _]) X 94 dX6_partnerOf_93 rfl (by decide) rfl ?_
                  refine G.iinc (ls' := [_, _, _, _, _]) X 97 dX6_partnerOf_94 rfl rfl (by decide) rfl ?_
                  refine G.goto X 5 dX6_partnerOf_97 (by decide) ?_
                  refine G.drop 4 ?_
                  refine ih (i + 1) _ (by omega) ?_
                  rw [partF_s]
                  first | (rw [if_pos (by omega)]; done) | (rw [if_neg (by omega)]; exact hq)
                · obtain ⟨w, hw, hwi, hw4, -⟩ := partF_get (r := (M (y + 1))) (s := j) (n := i) (by omega)
                  have hwt : fS (M (y + 1)) (hasN (M (y + 1)) (partF (M (y + 1)) j i).toNat) 0 = fS (M (y + 1)) (hasN (M (y + 1)) w) 0 := by rw [hw]; rfl
                  obtain ⟨hk3, hk4⟩ := hasN_lt hV (show w < nC (M (y + 1)) by omega) hw4
                  obtain ⟨z0, -, -, -, -, -, -, -⟩ := hV.2.1 (hasN (M (y + 1)) w) (by omega)
                  obtain rfl : q = (w : Int) := by omega
                  refine G.aload_n X 66 dX6_partnerOf_65 rfl rfl ?_
                  refine G.aload_n X 67 dX6_partnerOf_66 rfl rfl ?_
                  refine G.iload_n X 68 dX6_partnerOf_67 rfl rfl ?_
                  refine G.vI1 (d := 1) X ml_X6_81 yv_X6_setAt 71 dX6_partnerOf_68 rfl (c_X6_setAt l D Bs _ kd rf _ y (i) hY (by omega)) ⟨_, _, (hY).1, rfl, rfl⟩ (by decide) ⟨Nat.zero_le _, Nat.zero_le _⟩ (Nat.le_of_ble_eq_true rfl) (fun r68 M68 h68 => ?_)
                  obtain ⟨hr68, hm68⟩ := h68
                  obtain rfl : r68 = (hasN (M (y + 1)) i : Int) := by omega
                  obtain rfl := hm68.symm
                  refine G.iconst X 72 dX6_partnerOf_71 rfl ?_
                  refine G.vI2 (d := 0) X ml_X6_48 yv_X6_ofSet 75 dX6_partnerOf_72 rfl (c_X6_ofSet l D Bs _ kd rf _ y (hasN (M (y + 1)) i) 0 hY (by omega) (by decide)) ⟨_, _, (hY).1, rfl, rfl⟩ (by decide) ⟨Nat.zero_le _, Nat.zero_le _⟩ (Nat.le_of_ble_eq_true rfl) (fun r72 M72 h72 => ?_)
                  obtain ⟨hr72, hm72⟩ := h72
                  subst hr72
                  obtain rfl := hm72.symm
                  refine G.aload_n X 76 dX6_partnerOf_75 rfl rfl ?_
                  refine G.aload_n X 77 dX6_partnerOf_76 rfl rfl ?_
                  refine G.iload_n X 78 dX6_partnerOf_77 rfl rfl ?_
                  refine G.vI1 (d := 1) X ml_X6_81 yv_X6_setAt 81 dX6_partnerOf_78 rfl (c_X6_setAt l D Bs _ kd rf _ y w hY (by omega)) ⟨_, _, (hY).1, rfl, rfl⟩ (by decide) ⟨Nat.zero_le _, Nat.zero_le _⟩ (Nat.le_of_ble_eq_true rfl) (fun r78 M78 h78 => ?_)
                  obtain ⟨hr78, hm78⟩ := h78
                  obtain rfl : r78 = (hasN (M (y + 1)) w : Int) := by omega
                  obtain rfl := hm78.symm
                  refine G.iconst X 82 dX6_partnerOf_81 rfl ?_
                  refine G.vI2 (d := 0) X ml_X6_48 yv_X6_ofSet 85 dX6_partnerOf_82 rfl (c_X6_ofSet l D Bs _ kd rf _ y (hasN (M (y + 1)) w) 0 hY (by omega) (by decide)) ⟨_, _, (hY).1, rfl, rfl⟩ (by decide) ⟨Nat.zero_le _, Nat.zero_le _⟩ (Nat.le_of_ble_eq_true rfl) (fun r82 M82 h82 => ?_)
                  obtain ⟨hr82, hm82⟩ := h82
                  subst hr82
                  obtain rfl := hm82.symm
                  refine G.icmp_ge X 92 88 dX6_partnerOf_85 (by decide) rfl (by omega) (by omega) (fun hc85 => ?_) (fun hc85 => ?_)
                  · refine G.iload_n X 93 dX6_partnerOf_92 rfl rfl ?_
                    refine G.istore_n (ls' := [_, _, _, _, _]) X 94 dX6_partnerOf_93 rfl (by decide) rfl ?_
                    refine G.iinc (ls' := [_, _, _, _, _]) X 97 dX6_partnerOf_94 rfl rfl (by decide) rfl ?_
                    refine G.goto X 5 dX6_partnerOf_97 (by decide) ?_
                    refine G.drop 4 ?_
                    refine ih (i + 1) _ (by omega) ?_
                    rw [partF_s]
                    first | (rw [if_pos (by omega)]; done) | (rw [if_neg (by omega)]; exact hq)
                  · refine G.iload_n X 89 dX6_partnerOf_88 rfl rfl ?_
                    refine G.goto X 93 dX6_partnerOf_89 (by decide) ?_
                    refine G.istore_n (ls' := [_, _, _, _, _]) X 94 dX6_partnerOf_93 rfl (by decide) rfl ?_
                    refine G.iinc (ls' := [_, _, _, _, _]) X 97 dX6_partnerOf_94 rfl rfl (by decide) rfl ?_
                    refine G.goto X 5 dX6_partnerOf_97 (by decide) ?_
                    refine G.drop 4 ?_
                    refine ih (i + 1) _ (by omega) ?_
                    rw [partF_s]
                    first | (rw [if_pos (by omega)]; done) | (rw [if_neg (by omega)]; exact hq)
  refine G.bipush X 2 dX6_partnerOf_0 rfl (by decide) ?_
  refine G.istore_n (ls' := [_, _, _, _, _]) X 3 dX6_partnerOf_2 rfl (by decide) rfl ?_
  refine G.iconst X 4 dX6_partnerOf_3 rfl ?_
  refine G.istore_n (ls' := [_, _, _, _, _]) X 5 dX6_partnerOf_4 rfl (by decide) rfl ?_
  exact L5 (nC (M (y + 1))) 0 (-5) (by omega) rfl
set_option maxHeartbeats 1000000 in
set_option maxRecDepth 100000 in
theorem c_X6_needyAt (l : Launch) (D : xD) (Bs sz : Nat) (kd : xKd) (rf : xRf) (M : xM) (y : Nat) (x : Int) (hY : ShY kd rf y) (hV : Vk (M (y + 1))) (rx : IR x) : CtI l D Bs yX6_needyAt cX6_needyAt 5 (some .int) 2 [.ref y, vi x] sz kd rf M (fun q M' => q = nthN (needL (M (y + 1))) x ∧ M' = M) := by
  refine Ctr.of (yv_X6_needyAt.1.2.2.2.2) (List.forall_mem_cons.mpr ⟨rfl, List.forall_mem_cons.mpr ⟨rfl, fun _ h => absurd h List.not_mem_nil⟩⟩) (Nat.le_of_ble_eq_true rfl) [some (.ref y), some (vi x), none, none, none] rfl ?_
  intro p e s m args below meth c X hin
  obtain ⟨n6, n6b⟩ := hV.n6
  obtain ⟨n7, n7b⟩ := hV.n7
  obtain ⟨hv0, -, -, -, -, -⟩ := hV.1
  have L18 : ∀ (k : Nat) (i u : Nat) (q : Int), i + k = nC (M (y + 1)) → u < nC (M (y + 1)) → q = (rankN (nk (M (y + 1))) (openB (M (y + 1))) i u : Int) → (((openB (M (y + 1))) u = true → (rankN (nk (M (y + 1))) (openB (M (y + 1))) (nC (M (y + 1))) u : Int) ≠ x) → G p l e (rmd 2) s m args below meth c D Bs 5 0 0 (MQ below (xQ D Bs (pI sz kd rf (fun q M' => q = nthN (needL (M (y + 1))) x ∧ M' = M))) args s 0 0 (fun q => Bs ≤ q)) sz kd rf (M) 2 [some (.ref y), some (vi x), some (vi ((u + 1 : Nat) : Int)), none, none] []) → G p l e (rmd 2) s m args below meth c D Bs 5 0 0 (MQ below (xQ D Bs (pI sz kd rf (fun q M' => q = nthN (needL (M (y + 1))) x ∧ M' = M))) args s 0 0 (fun q => Bs ≤ q)) sz kd rf (M) 18 [some (.ref y), some (vi x), some (vi (u : Int)), some (vi q), some (vi (i : Int))] [] := by
    intro k
    induction k with
    | zero =>
      intro i u q hik hu hq hK
      have hrl : rankN (nk (M (y + 1))) (openB (M (y + 1))) i u ≤ i := cntN_le _ i
      obtain ⟨-, -, t2, t3, -, -, -⟩ := hV.2.2 (u) (by omega)
      obtain rfl : i = nC (M (y + 1)) := by omega
      refine G.iload X 20 dX6_needyAt_18 rfl rfl ?_
      refine G.aload_n X 21 dX6_needyAt_20 rfl rfl ?_
      refine G.getR X fl_X6_7 24 dX6_needyAt_21 rfl (hY).1 (ShY.r0 hY) ?_
      refine G.bipush X 26 dX6_needyAt_24 rfl (by decide) ?_
      refine G.iald X (i := 7) 27 dX6_needyAt_26 rfl ((ShY.a0 hY)).1 (((ShY.a0 hY)).2 _) rfl (by omega) (by decide) ?_
      refine G.icmp_ge X 69 30 dX6_needyAt_27 (by decide) rfl (by omega) (by omega) (fun hc27 => ?_) (fun hc27 => ?_)
      · refine G.aload_n X 70 dX6_needyAt_69 rfl rfl ?_
        refine G.iload_n X 71 dX6_needyAt_70 rfl rfl ?_
        refine G.vI1 (d := 1) X ml_X6_101 yv_X6_isOpen 74 dX6_needyAt_71 rfl (c_X6_isOpen l D Bs _ kd rf _ y (u) hY hV (by omega)) ⟨_, _, (hY).1, rfl, rfl⟩ (by decide) ⟨Nat.zero_le _, Nat.zero_le _⟩ (Nat.le_of_ble_eq_true rfl) (fun r71 M71 h71 => ?_)
        obtain ⟨hr71, hm71⟩ := h71
        subst hr71
        obtain rfl := hm71.symm
        refine G.ifb_eq X 84 77 dX6_needyAt_74 (by decide) rfl (fun hc74 => ?_) (fun hc74 => ?_)
        · refine G.iinc (ls' := [_, _, _, _, _]) X 87 dX6_needyAt_84 rfl rfl (by decide) rfl ?_
          refine G.goto X 2 dX6_needyAt_87 (by decide) ?_
          refine G.drop 3 ?_
          refine G.drop 4 ?_
          first
            | exact hK (fun h1 => by have h2 := openB_iff.mp h1; omega)
            | exact L2 (nC (M (y + 1))) 0 (by omega) (fun z hz => absurd hz (Nat.not_lt_zero z))
        · refine G.iload_n X 78 dX6_needyAt_77 rfl rfl ?_
          refine G.iload_n X 79 dX6_needyAt_78 rfl rfl ?_
          refine G.icmp_ne X 84 82 dX6_needyAt_79 (by decide) rfl (by omega) (by omega) (fun hc79 => ?_) (fun hc79 => ?_)
          · refine G.iinc (ls' := [_, _, _, _, _]) X 87 dX6_needyAt_84 rfl rfl (by decide) rfl ?_
            refine G.goto X 2 dX6_needyAt_87 (by decide) ?_
            refine G.drop 3 ?_
            refine G.drop 4 ?_
            first
              | exact hK (fun h1 => by have h2 := openB_iff.mp h1; omega)
              | exact L2 (nC (M (y + 1))) 0 (by omega) (fun z hz => absurd hz (Nat.not_lt_zero z))
          · refine G.iload_n X 83 dX6_needyAt_82 rfl rfl ?_
            refine G.iret X dX6_needyAt_83 ⟨Nat.le_refl _, Nat.le_refl _⟩ ⟨rfl, rfl, rfl, _, rfl, ?_⟩
            exact ⟨(nthN_at hu (openB_iff.mpr (by omega)) (by omega)).symm, rfl⟩
      · exfalso; omega
    | succ k ih =>
      intro i u q hik hu hq hK
      have hrl : rankN (nk (M (y + 1))) (openB (M (y + 1))) i u ≤ i := cntN_le _ i
      obtain ⟨-, -, t2, t3, -, -, -⟩ := hV.2.2 (u) (by omega)
      obtain ⟨-, -, v2, v3, -, -, -⟩ := hV.2.2 (i) (by omega)
      refine G.iload X 20 dX6_needyAt_18 rfl rfl ?_
      refine G.aload_n X 21 dX6_needyAt_20 rfl rfl ?_
      refine G.getR X fl_X6_7 24 dX6_needyAt_21 rfl (hY).1 (ShY.r0 hY) ?_
      refine G.bipush X 26 dX6_needyAt_24 rfl (by decide) ?_
      refine G.iald X (i := 7) 27 dX6_needyAt_26 rfl ((ShY.a0 hY)).1 (((ShY.a0 hY)).2 _) rfl (by omega) (by decide) ?_
      refine G.icmp_ge X 69 30 dX6_needyAt_27 (by decide) rfl (by omega) (by omega) (fun hc27 => ?_) (fun hc27 => ?_)
      · exfalso; omega
      · refine G.iload_n X 31 dX6_needyAt_30 rfl rfl ?_
        refine G.iload X 33 dX6_needyAt_31 rfl rfl ?_
        refine G.iload_n X 34 dX6_needyAt_33 rfl rfl ?_
        refine G.icmp_eq X 60 37 dX6_needyAt_34 (by decide) rfl (by omega) (by omega) (fun hc34 => ?_) (fun hc34 => ?_)
        · refine G.iconst X 61 dX6_needyAt_60 rfl ?_
          refine G.iadd X 62 dX6_needyAt_61 rfl ?_
          refine G.istore_n (ls' := [_, _, _, _, _]) X 63 dX6_needyAt_62 rfl (by decide) rfl ?_
          refine G.iinc (ls' := [_, _, _, _, _]) X 66 dX6_needyAt_63 rfl rfl (by decide) rfl ?_
          refine G.goto X 18 dX6_needyAt_66 (by decide) ?_
          refine ih (i + 1) u _ (by omega) hu ?_ hK
          rw [rankN_s]
          first
            | (rw [if_pos ⟨openB_iff.mpr (by omega), by omega⟩]; omega)
            | (rw [if_neg (fun z => by have h1 := openB_iff.mp z.1; have h2 := z.2; omega)]; omega)
            | (obtain rfl : i = u := by omega
               rw [if_neg (fun z => by have h2 := z.2; omega)]; omega)
        · refine G.aload_n X 38 dX6_needyAt_37 rfl rfl ?_
          refine G.iload X 40 dX6_needyAt_38 rfl rfl ?_
          refine G.vI1 (d := 1) X ml_X6_101 yv_X6_isOpen 43 dX6_needyAt_40 rfl (c_X6_isOpen l D Bs _ kd rf _ y (i) hY hV (by omega)) ⟨_, _, (hY).1, rfl, rfl⟩ (by decide) ⟨Nat.zero_le _, Nat.zero_le _⟩ (Nat.le_of_ble_eq_true rfl) (fun r40 M40 h40 => ?_)
          obtain ⟨hr40, hm40⟩ := h40
          subst hr40
          obtain rfl := hm40.symm
          refine G.ifb_eq X 60 46 dX6_needyAt_43 (by decide) rfl (fun hc43 => ?_) (fun hc43 => ?_)
          · refine G.iconst X 61 dX6_needyAt_60 rfl ?_
            refine G.iadd X 62 dX6_needyAt_61 rfl ?_
            refine G.istore_n (ls' := [_, _, _, _, _]) X 63 dX6_needyAt_62 rfl (by decide) rfl ?_
            refine G.iinc (ls' := [_, _, _, _, _]) X 66 dX6_needyAt_63 rfl rfl (by decide) rfl ?_
            refine G.goto X 18 dX6_needyAt_66 (by decide) ?_
            refine ih (i + 1) u _ (by omega) hu ?_ hK
            rw [rankN_s]
            first
              | (rw [if_pos ⟨openB_iff.mpr (by omega), by omega⟩]; omega)
              | (rw [if_neg (fun z => by have h1 := openB_iff.mp z.1; have h2 := z.2; omega)]; omega)
              | (obtain rfl : i = u := by omega
                 rw [if_neg (fun z => by have h2 := z.2; omega)]; omega)
          · refine G.aload_n X 47 dX6_needyAt_46 rfl rfl ?_
            refine G.iload X 49 dX6_needyAt_47 rfl rfl ?_
            refine G.iload_n X 50 dX6_needyAt_49 rfl rfl ?_
            refine G.vI2 (d := 1) X ml_X6_104 yv_X6_isNeedier 53 dX6_needyAt_50 rfl (c_X6_isNeedier l D Bs _ kd rf _ y (i) (u) hY hV (by omega) (by omega)) ⟨_, _, (hY).1, rfl, rfl⟩ (by decide) ⟨Nat.zero_le _, Nat.zero_le _⟩ (Nat.le_of_ble_eq_true rfl) (fun r50 M50 h50 => ?_)
            obtain ⟨hr50, hm50⟩ := h50
            subst hr50
            obtain rfl := hm50.symm
            refine G.ifb_eq X 60 56 dX6_needyAt_53 (by decide) rfl (fun hc53 => ?_) (fun hc53 => ?_)
            · refine G.iconst X 61 dX6_needyAt_60 rfl ?_
              refine G.iadd X 62 dX6_needyAt_61 rfl ?_
              refine G.istore_n (ls' := [_, _, _, _, _]) X 63 dX6_needyAt_62 rfl (by decide) rfl ?_
              refine G.iinc (ls' := [_, _, _, _, _]) X 66 dX6_needyAt_63 rfl rfl (by decide) rfl ?_
              refine G.goto X 18 dX6_needyAt_66 (by decide) ?_
              refine ih (i + 1) u _ (by omega) hu ?_ hK
              rw [rankN_s]
              first
                | (rw [if_pos ⟨openB_iff.mpr (by omega), by omega⟩]; omega)
                | (rw [if_neg (fun z => by have h1 := openB_iff.mp z.1; have h2 := z.2; omega)]; omega)
                | (obtain rfl : i = u := by omega
                   rw [if_neg (fun z => by have h2 := z.2; omega)]; omega)
            · refine G.iconst X 57 dX6_needyAt_56 rfl ?_
              refine G.goto X 61 dX6_needyAt_57 (by decide) ?_
              refine G.iadd X 62 dX6_needyAt_61 rfl ?_
              refine G.istore_n (ls' := [_, _, _, _, _]) X 63 dX6_needyAt_62 rfl (by decide) rfl ?_
              refine G.iinc (ls' := [_, _, _, _, _]) X 66 dX6_needyAt_63 rfl rfl (by decide) rfl ?_
              refine G.goto X 18 dX6_needyAt_66 (by decide) ?_
              refine ih (i + 1) u _ (by omega) hu ?_ hK
              rw [rankN_s]
              first
                | (rw [if_pos ⟨openB_iff.mpr (by omega), by omega⟩]; omega)
                | (rw [if_neg (fun z => by have h1 := openB_iff.mp z.1; have h2 := z.2; omega)]; omega)
                | (obtain rfl : i = u := by omega
                   rw [if_neg (fun z => by have h2 := z.2; omega)]; omega)
  have L2 : ∀ (k : Nat) (i : Nat), i + k = nC (M (y + 1)) → (∀ z, z < i → (openB (M (y + 1))) z = true → (rankN (nk (M (y + 1))) (openB (M (y + 1))) (nC (M (y + 1))) z : Int) ≠ x) → G p l e (rmd 2) s m args below meth c D Bs 5 0 0 (MQ below (xQ D Bs (pI sz kd rf (fun q M' => q = nthN (needL (M (y + 1))) x ∧ M' = M))) args s 0 0 (fun q => Bs ≤ q)) sz kd rf (M) 2 [some (.ref y), some (vi x), some (vi (i : Int)), none, none] [] := by
    intro k
    induction k with
    | zero =>
      intro i hik hno
      obtain rfl : i = nC (M (y + 1)) := by omega
      refine G.iload_n X 3 dX6_needyAt_2 rfl rfl ?_
      refine G.aload_n X 4 dX6_needyAt_3 rfl rfl ?_
      refine G.getR X fl_X6_7 7 dX6_needyAt_4 rfl (hY).1 (ShY.r0 hY) ?_
      refine G.bipush X 9 dX6_needyAt_7 rfl (by decide) ?_
      refine G.iald X (i := 7) 10 dX6_needyAt_9 rfl ((ShY.a0 hY)).1 (((ShY.a0 hY)).2 _) rfl (by omega) (by decide) ?_
      refine G.icmp_ge X 90 13 dX6_needyAt_10 (by decide) rfl (by omega) (by omega) (fun hc10 => ?_) (fun hc10 => ?_)
      · refine G.bipush X 92 dX6_needyAt_90 rfl (by decide) ?_
        refine G.iret X dX6_needyAt_92 ⟨Nat.le_refl _, Nat.le_refl _⟩ ⟨rfl, rfl, rfl, _, rfl, ?_⟩
        exact ⟨(nthN_no hno).symm, rfl⟩
      · exfalso; omega
    | succ k ih =>
      intro i hik hno
      refine G.iload_n X 3 dX6_needyAt_2 rfl rfl ?_
      refine G.aload_n X 4 dX6_needyAt_3 rfl rfl ?_
      refine G.getR X fl_X6_7 7 dX6_needyAt_4 rfl (hY).1 (ShY.r0 hY) ?_
      refine G.bipush X 9 dX6_needyAt_7 rfl (by decide) ?_
      refine G.iald X (i := 7) 10 dX6_needyAt_9 rfl ((ShY.a0 hY)).1 (((ShY.a0 hY)).2 _) rfl (by omega) (by decide) ?_
      refine G.icmp_ge X 90 13 dX6_needyAt_10 (by decide) rfl (by omega) (by omega) (fun hc10 => ?_) (fun hc10 => ?_)
      · exfalso; omega
      · refine G.iconst X 14 dX6_needyAt_13 rfl ?_
        refine G.istore_n (ls' := [_, _, _, _, _]) X 15 dX6_needyAt_14 rfl (by decide) rfl ?_
        refine G.iconst X 16 dX6_needyAt_15 rfl ?_
        refine G.istore (ls' := [_, _, _, _, _]) X 18 dX6_needyAt_16 rfl (by decide) rfl ?_
        exact L18 (nC (M (y + 1))) 0 i 0 (by omega) (by omega) rfl (fun h => ih (i + 1) (by omega) (fun z hz hp => (Nat.lt_succ_iff_lt_or_eq.mp hz).elim (fun h1 => hno z h1 hp) (fun h1 => by subst h1; exact h hp)))
  refine G.iconst X 1 dX6_needyAt_0 rfl ?_
  refine G.istore_n (ls' := [_, _, _, _, _]) X 2 dX6_needyAt_1 rfl (by decide) rfl ?_
  first
    | exact hK (fun h1 => by have h2 := openB_iff.mp h1; omega)
    | exact L2 (nC (M (y + 1))) 0 (by omega) (fun z hz => absurd hz (Nat.not_lt_zero z))
set_option maxHeartbeats 1000000 in
set_option maxRecDepth 100000 in
theorem c_X6_thirstyAt (l : Launch) (D : xD) (Bs sz : Nat) (kd : xKd) (rf : xRf) (M : xM) (y : Nat) (x : Int) (hY : ShY kd rf y) (hV : Vk (M (y + 1))) (rx : IR x) : CtI l D Bs yX6_thirstyAt cX6_thirstyAt 6 (some .int) 2 [.ref y, vi x] sz kd rf M (fun q M' => q = nthN (thirL (M (y + 1))) x ∧ M' = M) := by
  refine Ctr.of (yv_X6_thirstyAt.1.2.2.2.2) (List.forall_mem_cons.mpr ⟨rfl, List.forall_mem_cons.mpr ⟨rfl, fun _ h => absurd h List.not_mem_nil⟩⟩) (Nat.le_of_ble_eq_true rfl) [some (.ref y), some (vi x), none, none, none, none] rfl ?_
  intro p e s m args below meth c X hin
  obtain ⟨n6, n6b⟩ := hV.n6
  obtain ⟨n7, n7b⟩ := hV.n7
  obtain ⟨hv0, -, -, -, -, -⟩ := hV.1
  have L18 : ∀ (k : Nat) (i u : Nat) (q : Int), i + k = nC (M (y + 1)) → u < nC (M (y + 1)) → (0 < fC (M (y + 1)) u 4 → q = (rankN (tk (M (y + 1))) (hasB (M (y + 1))) i u : Int)) → (0 ≤ q ∧ q ≤ i) → (((hasB (M (y + 1))) u = true → (rankN (tk (M (y + 1))) (hasB (M (y + 1))) (nC (M (y + 1))) u : Int) ≠ x) → G p l e (rmd 2) s m args below meth c D Bs 6 0 0 (MQ below (xQ D Bs (pI sz kd rf (fun q M' => q = nthN (thirL (M (y + 1))) x ∧ M' = M))) args s 0 0 (fun q => Bs ≤ q)) sz kd rf (M) 2 [some (.ref y), some (vi x), some (vi ((u + 1 : Nat) : Int)), none, none, none] []) → G p l e (rmd 2) s m args below meth c D Bs 6 0 0 (MQ below (xQ D Bs (pI sz kd rf (fun q M' => q = nthN (thirL (M (y + 1))) x ∧ M' = M))) args s 0 0 (fun q => Bs ≤ q)) sz kd rf (M) 18 [some (.ref y), some (vi x), some (vi (u : Int)), some (vi q), some (vi (i : Int)), none] [] := by
    intro k
    induction k with
    | zero =>
      intro i u q hik hu hq hqr hK
      have hrl : rankN (tk (M (y + 1))) (hasB (M (y + 1))) i u ≤ i := cntN_le _ i
      obtain ⟨t0, t1, -, -, t4, -, -⟩ := hV.2.2 (u) (by omega)
      have k1u : tk (M (y + 1)) u = nk (M (y + 1)) u - 1000 * hoursL (M (y + 1)) (hasN (M (y + 1)) u) := rfl
      have k2u : nk (M (y + 1)) u = fC (M (y + 1)) u 0 * 100 + fC (M (y + 1)) u 1 := rfl
      obtain rfl : i = nC (M (y + 1)) := by omega
      refine G.iload X 20 dX6_thirstyAt_18 rfl rfl ?_
      refine G.aload_n X 21 dX6_thirstyAt_20 rfl rfl ?_
      refine G.getR X fl_X6_7 24 dX6_thirstyAt_21 rfl (hY).1 (ShY.r0 hY) ?_
      refine G.bipush X 26 dX6_thirstyAt_24 rfl (by decide) ?_
      refine G.iald X (i := 7) 27 dX6_thirstyAt_26 rfl ((ShY.a0 hY)).1 (((ShY.a0 hY)).2 _) rfl (by omega) (by decide) ?_
      refine G.icmp_ge X 109 30 dX6_thirstyAt_27 (by decide) rfl (by omega) (by omega) (fun hc27 => ?_) (fun hc27 => ?_)
      · refine G.aload_n X 110 dX6_thirstyAt_109 rfl rfl ?_
        refine G.iload_n X 111 dX6_thirstyAt_110 rfl rfl ?_
        refine G.vI1 (d := 1) X ml_X6_81 yv_X6_setAt 114 dX6_thirstyAt_111 rfl (c_X6_setAt l D Bs _ kd rf _ y (u) hY (by omega)) ⟨_, _, (hY).1, rfl, rfl⟩ (by decide) ⟨Nat.zero_le _, Nat.zero_le _⟩ (Nat.le_of_ble_eq_true rfl) (fun r111 M111 h111 => ?_)
        obtain ⟨hr111, hm111⟩ := h111
        subst hr111
        obtain rfl := hm111.symm
        refine G.if_lt X 124 117 dX6_thirstyAt_114 (by decide) rfl (by omega) (fun hc114 => ?_) (fun hc114 => ?_)
        · refine G.iinc (ls' := [_, _, _, _, _, _]) X 127 dX6_thirstyAt_124 rfl rfl (by decide) rfl ?_
          refine G.goto X 2 dX6_thirstyAt_127 (by decide) ?_
          refine G.drop 3 ?_
          refine G.drop 4 ?_
          first
            | exact hK (fun h1 => by have h2 := hasB_iff.mp h1; omega)
            | exact L2 (nC (M (y + 1))) 0 (by omega) (fun z hz => absurd hz (Nat.not_lt_zero z))
        · refine G.iload_n X 118 dX6_thirstyAt_117 rfl rfl ?_
          refine G.iload_n X 119 dX6_thirstyAt_118 rfl rfl ?_
          refine G.icmp_ne X 124 122 dX6_thirstyAt_119 (by decide) rfl (by omega) (by omega) (fun hc119 => ?_) (fun hc119 => ?_)
          · refine G.iinc (ls' := [_, _, _, _, _, _]) X 127 dX6_thirstyAt_124 rfl rfl (by decide) rfl ?_
            refine G.goto X 2 dX6_thirstyAt_127 (by decide) ?_
            refine G.drop 3 ?_
            refine G.drop 4 ?_
            first
              | exact hK (fun h1 => by have h2 := hasB_iff.mp h1; omega)
              | exact L2 (nC (M (y + 1))) 0 (by omega) (fun z hz => absurd hz (Nat.not_lt_zero z))
          · refine G.iload_n X 123 dX6_thirstyAt_122 rfl rfl ?_
            refine G.iret X dX6_thirstyAt_123 ⟨Nat.le_refl _, Nat.le_refl _⟩ ⟨rfl, rfl, rfl, _, rfl, ?_⟩
            exact ⟨(nthN_at hu (hasB_iff.mpr (by omega)) (by have hq2 := hq (by omega); omega)).symm, rfl⟩
      · exfalso; omega
    | succ k ih =>
      intro i u q hik hu hq hqr hK
      have hrl : rankN (tk (M (y + 1))) (hasB (M (y + 1))) i u ≤ i := cntN_le _ i
      obtain ⟨t0, t1, -, -, t4, -, -⟩ := hV.2.2 (u) (by omega)
      have k1u : tk (M (y + 1)) u = nk (M (y + 1)) u - 1000 * hoursL (M (y + 1)) (hasN (M (y + 1)) u) := rfl
      have k2u : nk (M (y + 1)) u = fC (M (y + 1)) u 0 * 100 + fC (M (y + 1)) u 1 := rfl
      obtain ⟨v0, v1, -, -, v4, -, -⟩ := hV.2.2 (i) (by omega)
      have k1i : tk (M (y + 1)) i = nk (M (y + 1)) i - 1000 * hoursL (M (y + 1)) (hasN (M (y + 1)) i) := rfl
      have k2i : nk (M (y + 1)) i = fC (M (y + 1)) i 0 * 100 + fC (M (y + 1)) i 1 := rfl
      refine G.iload X 20 dX6_thirstyAt_18 rfl rfl ?_
      refine G.aload_n X 21 dX6_thirstyAt_20 rfl rfl ?_
      refine G.getR X fl_X6_7 24 dX6_thirstyAt_21 rfl (hY).1 (ShY.r0 hY) ?_
      refine G.bipush X 26 dX6_thirstyAt_24 rfl (by decide) ?_
      refine G.iald X (i := 7) 27 dX6_thirstyAt_26 rfl ((ShY.a0 hY)).1 (((ShY.a0 hY)).2 _) rfl (by omega) (by decide) ?_
      refine G.icmp_ge X 109 30 dX6_thirstyAt_27 (by decide) rfl (by omega) (by omega) (fun hc27 => ?_) (fun hc27 => ?_)
      · exfalso; omega
      · refine G.iload X 32 dX6_thirstyAt_30 rfl rfl ?_
        refine G.iload_n X 33 dX6_thirstyAt_32 rfl rfl ?_
        refine G.icmp_eq X 103 36 dX6_thirstyAt_33 (by decide) rfl (by omega) (by omega) (fun hc33 => ?_) (fun hc33 => ?_)
        · refine G.iinc (ls' := [_, _, _, _, _, _]) X 106 dX6_thirstyAt_103 rfl rfl (by decide) rfl ?_
          refine G.goto X 18 dX6_thirstyAt_106 (by decide) ?_
          refine ih (i + 1) u _ (by omega) hu (fun h4 => ?_) (by omega) hK
          have hq2 := hq h4
          rw [rankN_s]
          first
            | (rw [if_pos ⟨hasB_iff.mpr (by omega), by omega⟩]; omega)
            | (rw [if_neg (fun z => by have h1 := hasB_iff.mp z.1; have h2 := z.2; omega)]; omega)
            | (obtain rfl : i = u := by omega
               rw [if_neg (fun z => by have h2 := z.2; omega)]; omega)
        · refine G.aload_n X 37 dX6_thirstyAt_36 rfl rfl ?_
          refine G.iload X 39 dX6_thirstyAt_37 rfl rfl ?_
          refine G.vI1 (d := 1) X ml_X6_81 yv_X6_setAt 42 dX6_thirstyAt_39 rfl (c_X6_setAt l D Bs _ kd rf _ y (i) hY (by omega)) ⟨_, _, (hY).1, rfl, rfl⟩ (by decide) ⟨Nat.zero_le _, Nat.zero_le _⟩ (Nat.le_of_ble_eq_true rfl) (fun r39 M39 h39 => ?_)
          obtain ⟨hr39, hm39⟩ := h39
          subst hr39
          obtain rfl := hm39.symm
          refine G.if_lt X 103 45 dX6_thirstyAt_42 (by decide) rfl (by omega) (fun hc42 => ?_) (fun hc42 => ?_)
          · refine G.iinc (ls' := [_, _, _, _, _, _]) X 106 dX6_thirstyAt_103 rfl rfl (by decide) rfl ?_
            refine G.goto X 18 dX6_thirstyAt_106 (by decide) ?_
            refine ih (i + 1) u _ (by omega) hu (fun h4 => ?_) (by omega) hK
            have hq2 := hq h4
            rw [rankN_s]
            first
              | (rw [if_pos ⟨hasB_iff.mpr (by omega), by omega⟩]; omega)
              | (rw [if_neg (fun z => by have h1 := hasB_iff.mp z.1; have h2 := z.2; omega)]; omega)
              | (obtain rfl : i = u := by omega
                 rw [if_neg (fun z => by have h2 := z.2; omega)]; omega)
          · obtain ⟨hai, hbi⟩ := hasN_lt hV (show i < nC (M (y + 1)) by omega) (by omega)
            have hri := hoursL_rng (hV.2.1 _ hai)
            refine G.aload_n X 46 dX6_thirstyAt_45 rfl rfl ?_
            refine G.iload_n X 47 dX6_thirstyAt_46 rfl rfl ?_
            refine G.vI1 (d := 1) X ml_X6_81 yv_X6_setAt 50 dX6_thirstyAt_47 rfl (c_X6_setAt l D Bs _ kd rf _ y (u) hY (by omega)) ⟨_, _, (hY).1, rfl, rfl⟩ (by decide) ⟨Nat.zero_le _, Nat.zero_le _⟩ (Nat.le_of_ble_eq_true rfl) (fun r47 M47 h47 => ?_)
            obtain ⟨hr47, hm47⟩ := h47
            subst hr47
            obtain rfl := hm47.symm
            refine G.if_lt X 103 53 dX6_thirstyAt_50 (by decide) rfl (by omega) (fun hc50 => ?_) (fun hc50 => ?_)
            · refine G.iinc (ls' := [_, _, _, _, _, _]) X 106 dX6_thirstyAt_103 rfl rfl (by decide) rfl ?_
              refine G.goto X 18 dX6_thirstyAt_106 (by decide) ?_
              refine ih (i + 1) u _ (by omega) hu (fun h4 => ?_) (by omega) hK
              have hq2 := hq h4
              rw [rankN_s]
              first
                | (rw [if_pos ⟨hasB_iff.mpr (by omega), by omega⟩]; omega)
                | (rw [if_neg (fun z => by have h1 := hasB_iff.mp z.1; have h2 := z.2; omega)]; omega)
                | (obtain rfl : i = u := by omega
                   rw [if_neg (fun z => by have h2 := z.2; omega)]; omega)
            · obtain ⟨hau, hbu⟩ := hasN_lt hV (show u < nC (M (y + 1)) by omega) (by omega)
              have hru := hoursL_rng (hV.2.1 _ hau)
              refine G.aload_n X 54 dX6_thirstyAt_53 rfl rfl ?_
              refine G.aload_n X 55 dX6_thirstyAt_54 rfl rfl ?_
              refine G.iload_n X 56 dX6_thirstyAt_55 rfl rfl ?_
              refine G.vI1 (d := 1) X ml_X6_81 yv_X6_setAt 59 dX6_thirstyAt_56 rfl (c_X6_setAt l D Bs _ kd rf _ y (u) hY (by omega)) ⟨_, _, (hY).1, rfl, rfl⟩ (by decide) ⟨Nat.zero_le _, Nat.zero_le _⟩ (Nat.le_of_ble_eq_true rfl) (fun r56 M56 h56 => ?_)
              obtain ⟨hr56, hm56⟩ := h56
              obtain rfl : r56 = (hasN (M (y + 1)) u : Int) := by omega
              obtain rfl := hm56.symm
              refine G.vI1 (d := 1) X ml_X6_119 yv_X6_hoursLeft 62 dX6_thirstyAt_59 rfl (c_X6_hoursLeft l D Bs _ kd rf _ y (hasN (M (y + 1)) u) hY hV (by omega)) ⟨_, _, (hY).1, rfl, rfl⟩ (by decide) ⟨Nat.zero_le _, Nat.zero_le _⟩ (Nat.le_of_ble_eq_true rfl) (fun r59 M59 h59 => ?_)
              obtain ⟨hr59, hm59⟩ := h59
              subst hr59
              obtain rfl := hm59.symm
              refine G.aload_n X 63 dX6_thirstyAt_62 rfl rfl ?_
              refine G.aload_n X 64 dX6_thirstyAt_63 rfl rfl ?_
              refine G.iload X 66 dX6_thirstyAt_64 rfl rfl ?_
              refine G.vI1 (d := 1) X ml_X6_81 yv_X6_setAt 69 dX6_thirstyAt_66 rfl (c_X6_setAt l D Bs _ kd rf _ y (i) hY (by omega)) ⟨_, _, (hY).1, rfl, rfl⟩ (by decide) ⟨Nat.zero_le _, Nat.zero_le _⟩ (Nat.le_of_ble_eq_true rfl) (fun r66 M66 h66 => ?_)
              obtain ⟨hr66, hm66⟩ := h66
              obtain rfl : r66 = (hasN (M (y + 1)) i : Int) := by omega
              obtain rfl := hm66.symm
              refine G.vI1 (d := 1) X ml_X6_119 yv_X6_hoursLeft 72 dX6_thirstyAt_69 rfl (c_X6_hoursLeft l D Bs _ kd rf _ y (hasN (M (y + 1)) i) hY hV (by omega)) ⟨_, _, (hY).1, rfl, rfl⟩ (by decide) ⟨Nat.zero_le _, Nat.zero_le _⟩ (Nat.le_of_ble_eq_true rfl) (fun r69 M69 h69 => ?_)
              obtain ⟨hr69, hm69⟩ := h69
              subst hr69
              obtain rfl := hm69.symm
              refine G.isub X 73 dX6_thirstyAt_72 rfl ?_
              refine G.istore (ls' := [_, _, _, _, _, _]) X 75 dX6_thirstyAt_73 rfl (by decide) rfl ?_
              refine G.iload_n X 76 dX6_thirstyAt_75 rfl rfl ?_
              refine G.iload X 78 dX6_thirstyAt_76 rfl rfl ?_
              refine G.if_gt X 96 81 dX6_thirstyAt_78 (by decide) rfl (by omega) (fun hc78 => ?_) (fun hc78 => ?_)
              · refine G.iconst X 97 dX6_thirstyAt_96 rfl ?_
                refine G.goto X 101 dX6_thirstyAt_97 (by decide) ?_
                refine G.iadd X 102 dX6_thirstyAt_101 rfl ?_
                refine G.istore_n (ls' := [_, _, _, _, _, _]) X 103 dX6_thirstyAt_102 rfl (by decide) rfl ?_
                refine G.iinc (ls' := [_, _, _, _, _, _]) X 106 dX6_thirstyAt_103 rfl rfl (by decide) rfl ?_
                refine G.goto X 18 dX6_thirstyAt_106 (by decide) ?_
                refine G.drop 5 ?_
                refine ih (i + 1) u _ (by omega) hu (fun h4 => ?_) (by omega) hK
                have hq2 := hq h4
                rw [rankN_s]
                first
                  | (rw [if_pos ⟨hasB_iff.mpr (by omega), by omega⟩]; omega)
                  | (rw [if_neg (fun z => by have h1 := hasB_iff.mp z.1; have h2 := z.2; omega)]; omega)
                  | (obtain rfl : i = u := by omega
                     rw [if_neg (fun z => by have h2 := z.2; omega)]; omega)
              · refine G.iload X 83 dX6_thirstyAt_81 rfl rfl ?_
                refine G.if_ne X 100 86 dX6_thirstyAt_83 (by decide) rfl (by omega) (fun hc83 => ?_) (fun hc83 => ?_)
                · refine G.iconst X 101 dX6_thirstyAt_100 rfl ?_
                  refine G.iadd X 102 dX6_thirstyAt_101 rfl ?_
                  refine G.istore_n (ls' := [_, _, _, _, _, _]) X 103 dX6_thirstyAt_102 rfl (by decide) rfl ?_
                  refine G.iinc (ls' := [_, _, _, _, _, _]) X 106 dX6_thirstyAt_103 rfl rfl (by decide) rfl ?_
                  refine G.goto X 18 dX6_thirstyAt_106 (by decide) ?_
                  refine G.drop 5 ?_
                  refine ih (i + 1) u _ (by omega) hu (fun h4 => ?_) (by omega) hK
                  have hq2 := hq h4
                  rw [rankN_s]
                  first
                    | (rw [if_pos ⟨hasB_iff.mpr (by omega), by omega⟩]; omega)
                    | (rw [if_neg (fun z => by have h1 := hasB_iff.mp z.1; have h2 := z.2; omega)]; omega)
                    | (obtain rfl : i = u := by omega
                       rw [if_neg (fun z => by have h2 := z.2; omega)]; omega)
                · refine G.aload_n X 87 dX6_thirstyAt_86 rfl rfl ?_
                  refine G.iload X 89 dX6_thirstyAt_87 rfl rfl ?_
                  refine G.iload_n X 90 dX6_thirstyAt_89 rfl rfl ?_
                  refine G.vI2 (d := 1) X ml_X6_104 yv_X6_isNeedier 93 dX6_thirstyAt_90 rfl (c_X6_isNeedier l D Bs _ kd rf _ y (i) (u) hY hV (by omega) (by omega)) ⟨_, _, (hY).1, rfl, rfl⟩ (by decide) ⟨Nat.zero_le _, Nat.zero_le _⟩ (Nat.le_of_ble_eq_true rfl) (fun r90 M90 h90 => ?_)
                  obtain ⟨hr90, hm90⟩ := h90
                  subst hr90
                  obtain rfl := hm90.symm
                  refine G.ifb_eq X 100 96 dX6_thirstyAt_93 (by decide) rfl (fun hc93 => ?_) (fun hc93 => ?_)
                  · refine G.iconst X 101 dX6_thirstyAt_100 rfl ?_
                    refine G.iadd X 102 dX6_thirstyAt_101 rfl ?_
                    refine G.istore_n (ls' := [_, _, _, _, _, _]) X 103 dX6_thirstyAt_102 rfl (by decide) rfl ?_
                    refine G.iinc (ls' := [_, _, _, _, _, _]) X 106 dX6_thirstyAt_103 rfl rfl (by decide) rfl ?_
                    refine G.goto X 18 dX6_thirstyAt_106 (by decide) ?_
                    refine G.drop 5 ?_
                    refine ih (i + 1) u _ (by omega) hu (fun h4 => ?_) (by omega) hK
                    have hq2 := hq h4
                    rw [rankN_s]
                    first
                      | (rw [if_pos ⟨hasB_iff.mpr (by omega), by omega⟩]; omega)
                      | (rw [if_neg (fun z => by have h1 := hasB_iff.mp z.1; have h2 := z.2; omega)]; omega)
                      | (obtain rfl : i = u := by omega
                         rw [if_neg (fun z => by have h2 := z.2; omega)]; omega)
                  · refine G.iconst X 97 dX6_thirstyAt_96 rfl ?_
                    refine G.goto X 101 dX6_thirstyAt_97 (by decide) ?_
                    refine G.iadd X 102 dX6_thirstyAt_101 rfl ?_
                    refine G.istore_n (ls' := [_, _, _, _, _, _]) X 103 dX6_thirstyAt_102 rfl (by decide) rfl ?_
                    refine G.iinc (ls' := [_, _, _, _, _, _]) X 106 dX6_thirstyAt_103 rfl rfl (by decide) rfl ?_
                    refine G.goto X 18 dX6_thirstyAt_106 (by decide) ?_
                    refine G.drop 5 ?_
                    refine ih (i + 1) u _ (by omega) hu (fun h4 => ?_) (by omega) hK
                    have hq2 := hq h4
                    rw [rankN_s]
                    first
                      | (rw [if_pos ⟨hasB_iff.mpr (by omega), by omega⟩]; omega)
                      | (rw [if_neg (fun z => by have h1 := hasB_iff.mp z.1; have h2 := z.2; omega)]; omega)
                      | (obtain rfl : i = u := by omega
                         rw [if_neg (fun z => by have h2 := z.2; omega)]; omega)
  have L2 : ∀ (k : Nat) (i : Nat), i + k = nC (M (y + 1)) → (∀ z, z < i → (hasB (M (y + 1))) z = true → (rankN (tk (M (y + 1))) (hasB (M (y + 1))) (nC (M (y + 1))) z : Int) ≠ x) → G p l e (rmd 2) s m args below meth c D Bs 6 0 0 (MQ below (xQ D Bs (pI sz kd rf (fun q M' => q = nthN (thirL (M (y + 1))) x ∧ M' = M))) args s 0 0 (fun q => Bs ≤ q)) sz kd rf (M) 2 [some (.ref y), some (vi x), some (vi (i : Int)), none, none, none] [] := by
    intro k
    induction k with
    | zero =>
      intro i hik hno
      obtain rfl : i = nC (M (y + 1)) := by omega
      refine G.iload_n X 3 dX6_thirstyAt_2 rfl rfl ?_
      refine G.aload_n X 4 dX6_thirstyAt_3 rfl rfl ?_
      refine G.getR X fl_X6_7 7 dX6_thirstyAt_4 rfl (hY).1 (ShY.r0 hY) ?_
      refine G.bipush X 9 dX6_thirstyAt_7 rfl (by decide) ?_
      refine G.iald X (i := 7) 10 dX6_thirstyAt_9 rfl ((ShY.a0 hY)).1 (((ShY.a0 hY)).2 _) rfl (by omega) (by decide) ?_
      refine G.icmp_ge X 130 13 dX6_thirstyAt_10 (by decide) rfl (by omega) (by omega) (fun hc10 => ?_) (fun hc10 => ?_)
      · refine G.bipush X 132 dX6_thirstyAt_130 rfl (by decide) ?_
        refine G.iret X dX6_thirstyAt_132 ⟨Nat.le_refl _, Nat.le_refl _⟩ ⟨rfl, rfl, rfl, _, rfl, ?_⟩
        exact ⟨(nthN_no hno).symm, rfl⟩
      · exfalso; omega
    | succ k ih =>
      intro i hik hno
      refine G.iload_n X 3 dX6_thirstyAt_2 rfl rfl ?_
      refine G.aload_n X 4 dX6_thirstyAt_3 rfl rfl ?_
      refine G.getR X fl_X6_7 7 dX6_thirstyAt_4 rfl (hY).1 (ShY.r0 hY) ?_
      refine G.bipush X 9 dX6_thirstyAt_7 rfl (by decide) ?_
      refine G.iald X (i := 7) 10 dX6_thirstyAt_9 rfl ((ShY.a0 hY)).1 (((ShY.a0 hY)).2 _) rfl (by omega) (by decide) ?_
      refine G.icmp_ge X 130 13 dX6_thirstyAt_10 (by decide) rfl (by omega) (by omega) (fun hc10 => ?_) (fun hc10 => ?_)
      · exfalso; omega
      · refine G.iconst X 14 dX6_thirstyAt_13 rfl ?_
        refine G.istore_n (ls' := [_, _, _, _, _, _]) X 15 dX6_thirstyAt_14 rfl (by decide) rfl ?_
        refine G.iconst X 16 dX6_thirstyAt_15 rfl ?_
        refine G.istore (ls' := [_, _, _, _, _, _]) X 18 dX6_thirstyAt_16 rfl (by decide) rfl ?_
        exact L18 (nC (M (y + 1))) 0 i 0 (by omega) (by omega) (fun _ => rfl) (by omega) (fun h => ih (i + 1) (by omega) (fun z hz hp => (Nat.lt_succ_iff_lt_or_eq.mp hz).elim (fun h1 => hno z h1 hp) (fun h1 => by subst h1; exact h hp)))
  refine G.iconst X 1 dX6_thirstyAt_0 rfl ?_
  refine G.istore_n (ls' := [_, _, _, _, _, _]) X 2 dX6_thirstyAt_1 rfl (by decide) rfl ?_
  first
    | exact hK (fun h1 => by have h2 := hasB_iff.mp h1; omega)
    | exact L2 (nC (M (y + 1))) 0 (by omega) (fun z hz => absurd hz (Nat.not_lt_zero z))
