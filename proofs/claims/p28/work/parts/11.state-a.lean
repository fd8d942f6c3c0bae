set_option maxHeartbeats 4000000 in
set_option maxRecDepth 100000 in
theorem c_X4_isSet (l : Launch) (D : xD) (Bs sz : Nat) (kd : xKd) (rf : xRf) (M : xM) (b : Nat) (x : Int) (hS : ShSt kd rf b) (r0 : IR x) (r1 : IR (M b 7)) : CtI l D Bs yX4_isSet cX4_isSet 2 (some .boolean) 0 [.ref b, vi x] sz kd rf M (fun r M' => r = bi (0 ≤ x ∧ x < M b 7) ∧ M' = M) := by
  refine Ctr.of (yv_X4_isSet.1.2.2.2.2) (List.forall_mem_cons.mpr ⟨rfl, List.forall_mem_cons.mpr ⟨rfl, fun _ h => absurd h List.not_mem_nil⟩⟩) (Nat.le_of_ble_eq_true rfl) [some (.ref b), some (vi x)] rfl ?_
  intro p e s m args below meth c X hin
  refine G.iload_n X 1 dX4_isSet_0 rfl rfl ?_
  refine G.if_lt X 16 4 dX4_isSet_1 (by decide) rfl (by omega) (fun hc1 => ?_) (fun hc1 => ?_)
  · refine G.iconst X 17 dX4_isSet_16 rfl ?_
    refine G.zret X dX4_isSet_17 ⟨Nat.le_refl _, Nat.le_refl _⟩ (Or.inl rfl) ⟨rfl, rfl, rfl, _, rfl, ?_⟩
    exact ⟨(bi_f (by omega)).symm, rfl⟩
  · refine G.iload_n X 5 dX4_isSet_4 rfl rfl ?_
    refine G.aload_n X 6 dX4_isSet_5 rfl rfl ?_
    refine G.getI X fl_X4_47 9 dX4_isSet_6 rfl (hS).1 ((hS).2.1 7 (by decide)) ?_
    refine G.icmp_ge X 16 12 dX4_isSet_9 (by decide) rfl (by omega) (by omega) (fun hc9 => ?_) (fun hc9 => ?_)
    · refine G.iconst X 17 dX4_isSet_16 rfl ?_
      refine G.zret X dX4_isSet_17 ⟨Nat.le_refl _, Nat.le_refl _⟩ (Or.inl rfl) ⟨rfl, rfl, rfl, _, rfl, ?_⟩
      exact ⟨(bi_f (by omega)).symm, rfl⟩
    · refine G.iconst X 13 dX4_isSet_12 rfl ?_
      refine G.goto X 17 dX4_isSet_13 (by decide) ?_
      refine G.zret X dX4_isSet_17 ⟨Nat.le_refl _, Nat.le_refl _⟩ (Or.inr rfl) ⟨rfl, rfl, rfl, _, rfl, ?_⟩
      exact ⟨(bi_t (by omega)).symm, rfl⟩
set_option maxHeartbeats 4000000 in
set_option maxRecDepth 100000 in
theorem c_X4_isSite (l : Launch) (D : xD) (Bs sz : Nat) (kd : xKd) (rf : xRf) (M : xM) (b : Nat) (x : Int) (hS : ShSt kd rf b) (r0 : IR x) (r1 : IR (M b 8)) : CtI l D Bs yX4_isSite cX4_isSite 2 (some .boolean) 0 [.ref b, vi x] sz kd rf M (fun r M' => r = bi (0 ≤ x ∧ x < M b 8) ∧ M' = M) := by
  refine Ctr.of (yv_X4_isSite.1.2.2.2.2) (List.forall_mem_cons.mpr ⟨rfl, List.forall_mem_cons.mpr ⟨rfl, fun _ h => absurd h List.not_mem_nil⟩⟩) (Nat.le_of_ble_eq_true rfl) [some (.ref b), some (vi x)] rfl ?_
  intro p e s m args below meth c X hin
  refine G.iload_n X 1 dX4_isSite_0 rfl rfl ?_
  refine G.if_lt X 16 4 dX4_isSite_1 (by decide) rfl (by omega) (fun hc1 => ?_) (fun hc1 => ?_)
  · refine G.iconst X 17 dX4_isSite_16 rfl ?_
    refine G.zret X dX4_isSite_17 ⟨Nat.le_refl _, Nat.le_refl _⟩ (Or.inl rfl) ⟨rfl, rfl, rfl, _, rfl, ?_⟩
    exact ⟨(bi_f (by omega)).symm, rfl⟩
  · refine G.iload_n X 5 dX4_isSite_4 rfl rfl ?_
    refine G.aload_n X 6 dX4_isSite_5 rfl rfl ?_
    refine G.getI X fl_X4_50 9 dX4_isSite_6 rfl (hS).1 ((hS).2.1 8 (by decide)) ?_
    refine G.icmp_ge X 16 12 dX4_isSite_9 (by decide) rfl (by omega) (by omega) (fun hc9 => ?_) (fun hc9 => ?_)
    · refine G.iconst X 17 dX4_isSite_16 rfl ?_
      refine G.zret X dX4_isSite_17 ⟨Nat.le_refl _, Nat.le_refl _⟩ (Or.inl rfl) ⟨rfl, rfl, rfl, _, rfl, ?_⟩
      exact ⟨(bi_f (by omega)).symm, rfl⟩
    · refine G.iconst X 13 dX4_isSite_12 rfl ?_
      refine G.goto X 17 dX4_isSite_13 (by decide) ?_
      refine G.zret X dX4_isSite_17 ⟨Nat.le_refl _, Nat.le_refl _⟩ (Or.inr rfl) ⟨rfl, rfl, rfl, _, rfl, ?_⟩
      exact ⟨(bi_t (by omega)).symm, rfl⟩
set_option maxHeartbeats 4000000 in
set_option maxRecDepth 100000 in
theorem c_X5_isWithin (l : Launch) (D : xD) (Bs sz : Nat) (kd : xKd) (rf : xRf) (M : xM) (x y z : Int) (r0 : IR x) (r1 : IR y) (r2 : IR z) : CtI l D Bs yX5_isWithin cX5_isWithin 3 (some .boolean) 0 [vi x, vi y, vi z] sz kd rf M (fun r M' => r = bi (y ≤ x ∧ x ≤ z) ∧ M' = M) := by
  refine Ctr.of (ys_X5_isWithin.1.2.2.2.2) (List.forall_mem_cons.mpr ⟨rfl, List.forall_mem_cons.mpr ⟨rfl, List.forall_mem_cons.mpr ⟨rfl, fun _ h => absurd h List.not_mem_nil⟩⟩⟩) (Nat.le_of_ble_eq_true rfl) [some (vi x), some (vi y), some (vi z)] rfl ?_
  intro p e s m args below meth c X hin
  refine G.iload_n X 1 dX5_isWithin_0 rfl rfl ?_
  refine G.iload_n X 2 dX5_isWithin_1 rfl rfl ?_
  refine G.icmp_lt X 14 5 dX5_isWithin_2 (by decide) rfl (by omega) (by omega) (fun hc2 => ?_) (fun hc2 => ?_)
  · refine G.iconst X 15 dX5_isWithin_14 rfl ?_
    refine G.zret X dX5_isWithin_15 ⟨Nat.le_refl _, Nat.le_refl _⟩ (Or.inl rfl) ⟨rfl, rfl, rfl, _, rfl, ?_⟩
    exact ⟨(bi_f (by omega)).symm, rfl⟩
  · refine G.iload_n X 6 dX5_isWithin_5 rfl rfl ?_
    refine G.iload_n X 7 dX5_isWithin_6 rfl rfl ?_
    refine G.icmp_gt X 14 10 dX5_isWithin_7 (by decide) rfl (by omega) (by omega) (fun hc7 => ?_) (fun hc7 => ?_)
    · refine G.iconst X 15 dX5_isWithin_14 rfl ?_
      refine G.zret X dX5_isWithin_15 ⟨Nat.le_refl _, Nat.le_refl _⟩ (Or.inl rfl) ⟨rfl, rfl, rfl, _, rfl, ?_⟩
      exact ⟨(bi_f (by omega)).symm, rfl⟩
    · refine G.iconst X 11 dX5_isWithin_10 rfl ?_
      refine G.goto X 15 dX5_isWithin_11 (by decide) ?_
      refine G.zret X dX5_isWithin_15 ⟨Nat.le_refl _, Nat.le_refl _⟩ (Or.inr rfl) ⟨rfl, rfl, rfl, _, rfl, ?_⟩
      exact ⟨(bi_t (by omega)).symm, rfl⟩
set_option maxHeartbeats 4000000 in
set_option maxRecDepth 100000 in
theorem c_X4_allowsHours (l : Launch) (D : xD) (Bs sz : Nat) (kd : xKd) (rf : xRf) (M : xM) (b : Nat) (f u : Int) (hS : ShSt kd rf b) (r0 : IR f) (r1 : IR u) (r2 : IR (M b 0)) : CtI l D Bs yX4_allowsHours cX4_allowsHours 3 (some .boolean) 1 [.ref b, vi f, vi u] sz kd rf M (fun r M' => r = bi (0 ≤ f ∧ f ≤ 998 ∧ f < u ∧ M b 0 < u ∧ u ≤ 999) ∧ M' = M) := by
  refine Ctr.of (yv_X4_allowsHours.1.2.2.2.2) (List.forall_mem_cons.mpr ⟨rfl, List.forall_mem_cons.mpr ⟨rfl, List.forall_mem_cons.mpr ⟨rfl, fun _ h => absurd h List.not_mem_nil⟩⟩⟩) (Nat.le_of_ble_eq_true rfl) [some (.ref b), some (vi f), some (vi u)] rfl ?_
  intro p e s m args below meth c X hin
  refine G.iload_n X 1 dX4_allowsHours_0 rfl rfl ?_
  refine G.iconst X 2 dX4_allowsHours_1 rfl ?_
  refine G.sipush X 5 dX4_allowsHours_2 rfl (by decide) ?_
  refine G.sI3 (d := 0) X ml_X4_60 ys_X5_isWithin 8 dX4_allowsHours_5 rfl (c_X5_isWithin l D Bs _ kd rf _ _ _ _ (by omega) (by omega) (by omega)) (by decide) ⟨Nat.zero_le _, Nat.zero_le _⟩ (Nat.le_of_ble_eq_true rfl) (fun r5 M5 h5 => ?_)
  obtain ⟨hr5, hm5⟩ := h5
  subst hr5
  obtain rfl := hm5.symm
  refine G.ifb_eq X 35 11 dX4_allowsHours_8 (by decide) rfl (fun hc8 => ?_) (fun hc8 => ?_)
  · refine G.iconst X 36 dX4_allowsHours_35 rfl ?_
    refine G.zret X dX4_allowsHours_36 ⟨Nat.le_refl _, Nat.le_refl _⟩ (Or.inl rfl) ⟨rfl, rfl, rfl, _, rfl, ?_⟩
    exact ⟨(bi_f (by omega)).symm, rfl⟩
  · refine G.iload_n X 12 dX4_allowsHours_11 rfl rfl ?_
    refine G.iload_n X 13 dX4_allowsHours_12 rfl rfl ?_
    refine G.icmp_le X 35 16 dX4_allowsHours_13 (by decide) rfl (by omega) (by omega) (fun hc13 => ?_) (fun hc13 => ?_)
    · refine G.iconst X 36 dX4_allowsHours_35 rfl ?_
      refine G.zret X dX4_allowsHours_36 ⟨Nat.le_refl _, Nat.le_refl _⟩ (Or.inl rfl) ⟨rfl, rfl, rfl, _, rfl, ?_⟩
      exact ⟨(bi_f (by omega)).symm, rfl⟩
    · refine G.iload_n X 17 dX4_allowsHours_16 rfl rfl ?_
      refine G.aload_n X 18 dX4_allowsHours_17 rfl rfl ?_
      refine G.getI X fl_X4_32 21 dX4_allowsHours_18 rfl (hS).1 ((hS).2.1 0 (by decide)) ?_
      refine G.icmp_le X 35 24 dX4_allowsHours_21 (by decide) rfl (by omega) (by omega) (fun hc21 => ?_) (fun hc21 => ?_)
      · refine G.iconst X 36 dX4_allowsHours_35 rfl ?_
        refine G.zret X dX4_allowsHours_36 ⟨Nat.le_refl _, Nat.le_refl _⟩ (Or.inl rfl) ⟨rfl, rfl, rfl, _, rfl, ?_⟩
        exact ⟨(bi_f (by omega)).symm, rfl⟩
      · refine G.iload_n X 25 dX4_allowsHours_24 rfl rfl ?_
        refine G.sipush X 28 dX4_allowsHours_25 rfl (by decide) ?_
        refine G.icmp_gt X 35 31 dX4_allowsHours_28 (by decide) rfl (by omega) (by omega) (fun hc28 => ?_) (fun hc28 => ?_)
        · refine G.iconst X 36 dX4_allowsHours_35 rfl ?_
          refine G.zret X dX4_allowsHours_36 ⟨Nat.le_refl _, Nat.le_refl _⟩ (Or.inl rfl) ⟨rfl, rfl, rfl, _, rfl, ?_⟩
          exact ⟨(bi_f (by omega)).symm, rfl⟩
        · refine G.iconst X 32 dX4_allowsHours_31 rfl ?_
          refine G.goto X 36 dX4_allowsHours_32 (by decide) ?_
          refine G.zret X dX4_allowsHours_36 ⟨Nat.le_refl _, Nat.le_refl _⟩ (Or.inr rfl) ⟨rfl, rfl, rfl, _, rfl, ?_⟩
          exact ⟨(bi_t (by omega)).symm, rfl⟩
set_option maxHeartbeats 4000000 in
set_option maxRecDepth 100000 in
theorem c_X4_supplyOf (l : Launch) (D : xD) (Bs sz : Nat) (kd : xKd) (rf : xRf) (M : xM) (b a : Nat) (hS : ShSt kd rf b) (hC : IsC kd rf a) (r1 : IR (M a 4)) (r2 : 0 ≤ M b 7 ∧ M b 7 ≤ 10) : CtR l D Bs yX4_supplyOf cX4_supplyOf 2 (some (.object RX1)) 1 [.ref b, .ref a] sz kd rf M (fun v M' => M' = M ∧ (v = .null ∧ ¬ (0 ≤ M a 4 ∧ M a 4 < M b 7) ∨ ∃ i : Nat, M a 4 = (i : Int) ∧ (i : Int) < M b 7 ∧ v = .ref (b + 3 + i))) := by
  refine Ctr.of (yv_X4_supplyOf.1.2.2.2.2) (List.forall_mem_cons.mpr ⟨rfl, List.forall_mem_cons.mpr ⟨rfl, fun _ h => absurd h List.not_mem_nil⟩⟩) (Nat.le_of_ble_eq_true rfl) [some (.ref b), some (.ref a)] rfl ?_
  intro p e s m args below meth c X hin
  refine G.aload_n X 1 dX4_supplyOf_0 rfl rfl ?_
  refine G.aload_n X 2 dX4_supplyOf_1 rfl rfl ?_
  refine G.getI X fl_X4_90 5 dX4_supplyOf_2 rfl (hC).1 ((hC).2 4) ?_
  refine G.vI1 (d := 0) X ml_X4_93 yv_X4_isSet 8 dX4_supplyOf_5 rfl (c_X4_isSet l D Bs _ kd rf _ _ _ (hS) (by omega) (by omega)) ⟨_, _, (hS).1, rfl, rfl⟩ (by decide) ⟨Nat.zero_le _, Nat.zero_le _⟩ (Nat.le_of_ble_eq_true rfl) (fun r5 M5 h5 => ?_)
  obtain ⟨hr5, hm5⟩ := h5
  subst hr5
  obtain rfl := hm5.symm
  refine G.ifb_eq X 23 11 dX4_supplyOf_8 (by decide) rfl (fun hc8 => ?_) (fun hc8 => ?_)
  · refine G.null X 24 dX4_supplyOf_23 rfl ?_
    refine G.aret X dX4_supplyOf_24 ⟨Nat.le_refl _, Nat.le_refl _⟩ (Or.inl rfl) ⟨rfl, rfl, rfl, _, rfl, ?_⟩
    first | exact ⟨rfl, Or.inr ⟨(M a 4).toNat, by omega, by omega, rfl⟩⟩ | exact ⟨rfl, Or.inl ⟨rfl, by omega⟩⟩
  · refine G.aload_n X 12 dX4_supplyOf_11 rfl rfl ?_
    refine G.getR X fl_X4_20 15 dX4_supplyOf_12 rfl (hS).1 (hS).2.2.1 ?_
    refine G.aload_n X 16 dX4_supplyOf_15 rfl rfl ?_
    refine G.getI X fl_X4_90 19 dX4_supplyOf_16 rfl (hC).1 ((hC).2 4) ?_
    refine G.aald X (i := (M a 4).toNat) 20 dX4_supplyOf_19 rfl (ShSt.kg hS) (by decide) (ShSt.rg hS (by omega)) (by omega) (by omega) (by decide) ?_
    refine G.goto X 24 dX4_supplyOf_20 (by decide) ?_
    refine G.aret X dX4_supplyOf_24 ⟨Nat.le_refl _, Nat.le_refl _⟩ (Or.inr ⟨_, rfl⟩) ⟨rfl, rfl, rfl, _, rfl, ?_⟩
    first | exact ⟨rfl, Or.inr ⟨(M a 4).toNat, by omega, by omega, rfl⟩⟩ | exact ⟨rfl, Or.inl ⟨rfl, by omega⟩⟩
set_option maxHeartbeats 4000000 in
set_option maxRecDepth 100000 in
theorem c_X4_leastInYard (l : Launch) (D : xD) (Bs sz : Nat) (kd : xKd) (rf : xRf) (M : xM) (b j : Nat) (r : xR) (hS : ShSt kd rf b) (hV : Vk r) (hM : St M b r) (hj : j < nC r) : CtI l D Bs yX4_leastInYard cX4_leastInYard 5 (some .int) 0 [.ref b, vi (j : Int)] sz kd rf M (fun q M' => q = yardF r j (nS r) ∧ M' = M) := by
  refine Ctr.of (yv_X4_leastInYard.1.2.2.2.2) (List.forall_mem_cons.mpr ⟨rfl, List.forall_mem_cons.mpr ⟨rfl, fun _ h => absurd h List.not_mem_nil⟩⟩) (Nat.le_of_ble_eq_true rfl) [some (.ref b), some (vi (j : Int)), none, none, none] rfl ?_
  intro p e s m args below meth c X hin
  obtain ⟨-, -, -, -, -, -, -, hb7, hb8⟩ := hM.1
  obtain ⟨n6, n6b⟩ := hV.n6
  obtain ⟨n7, n7b⟩ := hV.n7
  obtain ⟨-, cj1, -, -, -, -, -, -, -⟩ := hM.2.2 (j) hj
  obtain ⟨-, vj1, -, -, -, -, -⟩ := hV.2.2 (j) hj
  have L5 : ∀ (k : Nat) (i : Nat) (q : Int), i + k = nS r → q = yardF r j i → G p l e (rmd 0) s m args below meth c D Bs 5 0 0 (MQ below (xQ D Bs (pI sz kd rf (fun q M' => q = yardF r j (nS r) ∧ M' = M))) args s 0 0 (fun q => Bs ≤ q)) sz kd rf (M) 5 [some (.ref b), some (vi (j : Int)), some (vi q), some (vi (i : Int)), none] [] := by
    intro k
    induction k with
    | zero =>
      intro i q hik hq
      refine G.iload_n X 6 dX4_leastInYard_5 rfl rfl ?_
      refine G.aload_n X 7 dX4_leastInYard_6 rfl rfl ?_
      refine G.getI X fl_X4_47 10 dX4_leastInYard_7 rfl (hS).1 ((hS).2.1 7 (by decide)) ?_
      refine G.icmp_ge X 95 13 dX4_leastInYard_10 (by decide) rfl (by omega) (by omega) (fun hc10 => ?_) (fun hc10 => ?_)
      · refine G.iload_n X 96 dX4_leastInYard_95 rfl rfl ?_
        refine G.iret X dX4_leastInYard_96 ⟨Nat.le_refl _, Nat.le_refl _⟩ ⟨rfl, rfl, rfl, _, rfl, ?_⟩
        exact ⟨by rw [hq, show nS r = i by omega], rfl⟩
      · exfalso; omega
    | succ k ih =>
      intro i q hik hq
      have hi : i < nS r := by omega
      obtain ⟨gi0, -, -, -, -, gi5, -, -, -⟩ := hM.2.1 (i) hi
      obtain ⟨vi0, -, -, -, -, vi5, -, -⟩ := hV.2.1 (i) hi
      have hyl := yardF_lim r j i
      refine G.iload_n X 6 dX4_leastInYard_5 rfl rfl ?_
      refine G.aload_n X 7 dX4_leastInYard_6 rfl rfl ?_
      refine G.getI X fl_X4_47 10 dX4_leastInYard_7 rfl (hS).1 ((hS).2.1 7 (by decide)) ?_
      refine G.icmp_ge X 95 13 dX4_leastInYard_10 (by decide) rfl (by omega) (by omega) (fun hc10 => ?_) (fun hc10 => ?_)
      · exfalso; omega
      · refine G.aload_n X 14 dX4_leastInYard_13 rfl rfl ?_
        refine G.getR X fl_X4_20 17 dX4_leastInYard_14 rfl (hS).1 (hS).2.2.1 ?_
        refine G.iload_n X 18 dX4_leastInYard_17 rfl rfl ?_
        refine G.aald X 19 dX4_leastInYard_18 rfl (ShSt.kg hS) (by decide) (ShSt.rg hS (by omega)) rfl (by omega) (by decide) ?_
        refine G.getI X fl_X4_101 22 dX4_leastInYard_19 rfl (ShSt.g hS (by omega)).1 ((ShSt.g hS (by omega)).2 5) ?_
        refine G.bipush X 24 dX4_leastInYard_22 rfl (by decide) ?_
        refine G.icmp_ne X 52 27 dX4_leastInYard_24 (by decide) rfl (by omega) (by omega) (fun hc24 => ?_) (fun hc24 => ?_)
        · refine G.iconst X 53 dX4_leastInYard_52 rfl ?_
          refine G.istore (ls' := [_, _, _, _, _]) X 55 dX4_leastInYard_53 rfl (by decide) rfl ?_
          refine G.iload X 57 dX4_leastInYard_55 rfl rfl ?_
          refine G.if_eq X 89 60 dX4_leastInYard_57 (by decide) rfl (by omega) (fun hc57 => ?_) (fun hc57 => ?_)
          · refine G.iinc (ls' := [_, _, _, _, _]) X 92 dX4_leastInYard_89 rfl rfl (by decide) rfl ?_
            refine G.goto X 5 dX4_leastInYard_92 (by decide) ?_
            refine G.drop 4 ?_
            refine ih (i + 1) _ (by omega) ?_
            rw [yardF_s]
            first | (rw [if_pos (by omega)]; done) | (rw [if_neg (by omega)]; exact hq)
          · exact absurd hc57 (by decide)
        · refine G.aload_n X 28 dX4_leastInYard_27 rfl rfl ?_
          refine G.getR X fl_X4_20 31 dX4_leastInYard_28 rfl (hS).1 (hS).2.2.1 ?_
          refine G.iload_n X 32 dX4_leastInYard_31 rfl rfl ?_
          refine G.aald X 33 dX4_leastInYard_32 rfl (ShSt.kg hS) (by decide) (ShSt.rg hS (by omega)) rfl (by omega) (by decide) ?_
          refine G.getI X fl_X4_64 36 dX4_leastInYard_33 rfl (ShSt.g hS (by omega)).1 ((ShSt.g hS (by omega)).2 0) ?_
          refine G.aload_n X 37 dX4_leastInYard_36 rfl rfl ?_
          refine G.getR X fl_X4_26 40 dX4_leastInYard_37 rfl (hS).1 (hS).2.2.2.1 ?_
          refine G.iload_n X 41 dX4_leastInYard_40 rfl rfl ?_
          refine G.aald X (i := j) 42 dX4_leastInYard_41 rfl (ShSt.kc hS) (by decide) (ShSt.rc hS (by omega)) rfl (by omega) (by decide) ?_
          refine G.getI X fl_X4_104 45 dX4_leastInYard_42 rfl (ShSt.c hS (by omega)).1 ((ShSt.c hS (by omega)).2 1) ?_
          refine G.icmp_lt X 52 48 dX4_leastInYard_45 (by decide) rfl (by omega) (by omega) (fun hc45 => ?_) (fun hc45 => ?_)
          · refine G.iconst X 53 dX4_leastInYard_52 rfl ?_
            refine G.istore (ls' := [_, _, _, _, _]) X 55 dX4_leastInYard_53 rfl (by decide) rfl ?_
            refine G.iload X 57 dX4_leastInYard_55 rfl rfl ?_
            refine G.if_eq X 89 60 dX4_leastInYard_57 (by decide) rfl (by omega) (fun hc57 => ?_) (fun hc57 => ?_)
            · refine G.iinc (ls' := [_, _, _, _, _]) X 92 dX4_leastInYard_89 rfl rfl (by decide) rfl ?_
              refine G.goto X 5 dX4_leastInYard_92 (by decide) ?_
              refine G.drop 4 ?_
              refine ih (i + 1) _ (by omega) ?_
              rw [yardF_s]
              first | (rw [if_pos (by omega)]; done) | (rw [if_neg (by omega)]; exact hq)
            · exact absurd hc57 (by decide)
          · refine G.iconst X 49 dX4_leastInYard_48 rfl ?_
            refine G.goto X 53 dX4_leastInYard_49 (by decide) ?_
            refine G.istore (ls' := [_, _, _, _, _]) X 55 dX4_leastInYard_53 rfl (by decide) rfl ?_
            refine G.iload X 57 dX4_leastInYard_55 rfl rfl ?_
            refine G.if_eq X 89 60 dX4_leastInYard_57 (by decide) rfl (by omega) (fun hc57 => ?_) (fun hc57 => ?_)
            · exact absurd hc57 (by decide)
            · refine G.iload_n X 61 dX4_leastInYard_60 rfl rfl ?_
              refine G.bipush X 63 dX4_leastInYard_61 rfl (by decide) ?_
              refine G.icmp_eq X 87 66 dX4_leastInYard_63 (by decide) rfl (by omega) (by omega) (fun hc63 => ?_) (fun hc63 => ?_)
              · refine G.iload_n X 88 dX4_leastInYard_87 rfl rfl ?_
                refine G.istore_n (ls' := [_, _, _, _, _]) X 89 dX4_leastInYard_88 rfl (by decide) rfl ?_
                refine G.iinc (ls' := [_, _, _, _, _]) X 92 dX4_leastInYard_89 rfl rfl (by decide) rfl ?_
                refine G.goto X 5 dX4_leastInYard_92 (by decide) ?_
                refine G.drop 4 ?_
                refine ih (i + 1) _ (by omega) ?_
                rw [yardF_s]
                first | (rw [if_pos (by omega)]; done) | (rw [if_neg (by omega)]; exact hq)
              · obtain ⟨w, hw, hwi, hw3, hw4⟩ := yardF_get (r := r) (s := j) (n := i) (by omega)
                have hwt : fS r (yardF r j i).toNat 0 = fS r w 0 := by rw [hw]; rfl
                obtain ⟨gw0, -, -, -, -, -, -, -, -⟩ := hM.2.1 (w) (by omega)
                obtain ⟨vw0, -, -, -, -, -, -, -⟩ := hV.2.1 (w) (by omega)
                refine G.aload_n X 67 dX4_leastInYard_66 rfl rfl ?_
                refine G.getR X fl_X4_20 70 dX4_leastInYard_67 rfl (hS).1 (hS).2.2.1 ?_
                refine G.iload_n X 71 dX4_leastInYard_70 rfl rfl ?_
                refine G.aald X 72 dX4_leastInYard_71 rfl (ShSt.kg hS) (by decide) (ShSt.rg hS (by omega)) rfl (by omega) (by decide) ?_
                refine G.getI X fl_X4_64 75 dX4_leastInYard_72 rfl (ShSt.g hS (by omega)).1 ((ShSt.g hS (by omega)).2 0) ?_
                refine G.aload_n X 76 dX4_leastInYard_75 rfl rfl ?_
                refine G.getR X fl_X4_20 79 dX4_leastInYard_76 rfl (hS).1 (hS).2.2.1 ?_
                refine G.iload_n X 80 dX4_leastInYard_79 rfl rfl ?_
                refine G.aald X (i := w) 81 dX4_leastInYard_80 rfl (ShSt.kg hS) (by decide) (ShSt.rg hS (by omega)) (by omega) (by omega) (by decide) ?_
                refine G.getI X fl_X4_64 84 dX4_leastInYard_81 rfl (ShSt.g hS (by omega)).1 ((ShSt.g hS (by omega)).2 0) ?_
                refine G.icmp_ge X 89 87 dX4_leastInYard_84 (by decide) rfl (by omega) (by omega) (fun hc84 => ?_) (fun hc84 => ?_)
                · refine G.iinc (ls' := [_, _, _, _, _]) X 92 dX4_leastInYard_89 rfl rfl (by decide) rfl ?_
                  refine G.goto X 5 dX4_leastInYard_92 (by decide) ?_
                  refine G.drop 4 ?_
                  refine ih (i + 1) _ (by omega) ?_
                  rw [yardF_s]
                  first | (rw [if_pos (by omega)]; done) | (rw [if_neg (by omega)]; exact hq)
                · refine G.iload_n X 88 dX4_leastInYard_87 rfl rfl ?_
                  refine G.istore_n (ls' := [_, _, _, _, _]) X 89 dX4_leastInYard_88 rfl (by decide) rfl ?_
                  refine G.iinc (ls' := [_, _, _, _, _]) X 92 dX4_leastInYard_89 rfl rfl (by decide) rfl ?_
                  refine G.goto X 5 dX4_leastInYard_92 (by decide) ?_
                  refine G.drop 4 ?_
                  refine ih (i + 1) _ (by omega) ?_
                  rw [yardF_s]
                  first | (rw [if_pos (by omega)]; done) | (rw [if_neg (by omega)]; exact hq)
  refine G.bipush X 2 dX4_leastInYard_0 rfl (by decide) ?_
  refine G.istore_n (ls' := [_, _, _, _, _]) X 3 dX4_leastInYard_2 rfl (by decide) rfl ?_
  refine G.iconst X 4 dX4_leastInYard_3 rfl ?_
  refine G.istore_n (ls' := [_, _, _, _, _]) X 5 dX4_leastInYard_4 rfl (by decide) rfl ?_
  exact L5 (nS r) 0 (-5) (by omega) rfl
