theorem relR_n (r : xR) (j : Nat) : ∀ k, k < 16 → relR r j k = r k := by
  intro k hk
  unfold relR
  split
  · exact backR_0 hk
  · rfl
theorem passS_n (r : xR) : ∀ n, nS (passS r n) = nS r ∧ nC (passS r n) = nC r ∧ passS r n 0 = r 0 ∧ passS r n 1 = r 1 ∧ passS r n 2 = r 2 ∧ passS r n 3 = r 3 ∧ passS r n 6 = r 6 ∧ passS r n 7 = r 7
  | 0 => ⟨rfl, rfl, rfl, rfl, rfl, rfl, rfl, rfl⟩
  | n + 1 => by
    have h := passS_n r n
    rw [passS_s]
    split
    · have g := hrS_n (r := passS r n) (s := n)
      have g6 : hrS (passS r n) n 6 = passS r n 6 := by
        unfold hrS
        split
        · rw [litR_0 (by decide)]; rfl
        · rw [darkR_0 (by decide)]; rfl
      have g7 : hrS (passS r n) n 7 = passS r n 7 := by
        unfold hrS
        split
        · rw [litR_0 (by decide)]; rfl
        · rw [darkR_0 (by decide)]; rfl
      exact ⟨g.1.trans h.1, g.2.1.trans h.2.1, g.2.2.1.trans h.2.2.1, g.2.2.2.1.trans h.2.2.2.1, g.2.2.2.2.1.trans h.2.2.2.2.1, g.2.2.2.2.2.trans h.2.2.2.2.2.1, g6.trans h.2.2.2.2.2.2.1, g7.trans h.2.2.2.2.2.2.2⟩
    · exact h
theorem passT_n (r : xR) : ∀ n k, k < 16 → passT r n k = r k
  | 0, _, _ => rfl
  | n + 1, k, hk => by
    rw [passT_s]
    split
    · rw [relR_n _ _ k hk, passT_n r n k hk]
    · exact passT_n r n k hk
theorem upR_0 (r : xR) : upR r 0 = r 0 + 1 := by
  unfold upR
  rw [fu_same, (passS_n r (nC r)).2.2.1]
theorem upR_k (r : xR) {k : Nat} (hk : k ≠ 0) : upR r k = passS r (nC r) k := by
  unfold upR
  rw [fu_ne hk]
theorem upR_nS (r : xR) : nS (upR r) = nS r := by rw [nS_of (r := passS r (nC r)) (upR_k r (by decide)), (passS_n r (nC r)).1]
theorem upR_nC (r : xR) : nC (upR r) = nC r := by rw [nC_of (r := passS r (nC r)) (upR_k r (by decide)), (passS_n r (nC r)).2.1]
set_option maxHeartbeats 4000000 in
set_option maxRecDepth 100000 in
theorem c_X4_passHour (l : Launch) (D : xD) (Bs sz : Nat) (kd : xKd) (rf : xRf) (M : xM) (b : Nat) (r : xR) (hS : ShSt kd rf b) (hV : Vk r) (hM : St M b r) (hVs : ∀ n, n ≤ nC r → Vk (passS r n)) (hVt : ∀ n, n ≤ nC r → Vk (passT (upR r) n)) : CtV l D Bs yX4_passHour cX4_passHour 2 none 4 [.ref b] sz kd rf M (fun M' => St M' b (hourR r) ∧ Off M M' b 25) := by
  refine Ctr.of (yv_X4_passHour.1.2.2.2.2) (List.forall_mem_cons.mpr ⟨rfl, fun _ h => absurd h List.not_mem_nil⟩) (Nat.le_of_ble_eq_true rfl) [some (.ref b), none] rfl ?_
  intro p e s m args below meth c X hin
  obtain ⟨n7, n7b⟩ := hV.n7
  have L54 : ∀ (k : Nat) (i : Nat) (M2 : xM), i + k = nC r → St M2 b (passT (upR r) i) → Off M M2 b 25 → G p l e (rmd 4) s m args below meth c D Bs 2 0 0 (MQ below (xQ D Bs (pV sz kd rf (fun M' => St M' b (hourR r) ∧ Off M M' b 25))) args s 0 0 (fun q => Bs ≤ q)) sz kd rf (M2) 54 [some (.ref b), some (vi (i : Int))] [] := by
    intro k
    induction k with
    | zero =>
      intro i M2 hik hM2 hO2
      have hV2 := hVt i (by omega)
      have hT := passT_n (upR r) i
      have e7 : passT (upR r) i 7 = r 7 := (hT 7 (by decide)).trans ((upR_k r (by decide)).trans (passS_n r (nC r)).2.2.2.2.2.2.2)
      obtain ⟨hb0, -, -, -, -, -, -, -, hb8⟩ := hM2.1
      obtain rfl : i = nC r := by omega
      refine G.iload_n X 55 dX4_passHour_54 rfl rfl ?_
      refine G.aload_n X 56 dX4_passHour_55 rfl rfl ?_
      refine G.getI X fl_X4_50 59 dX4_passHour_56 rfl (hS).1 ((hS).2.1 8 (by decide)) ?_
      refine G.icmp_ge X 89 62 dX4_passHour_59 (by decide) rfl (by omega) (by omega) (fun hc59 => ?_) (fun hc59 => ?_)
      · refine G.vret X dX4_passHour_89 ⟨Nat.le_refl _, Nat.le_refl _⟩ ⟨rfl, rfl, rfl, rfl, ?_⟩
        exact ⟨hM2, hO2⟩
      · exfalso; omega
    | succ k ih =>
      intro i M2 hik hM2 hO2
      have hV2 := hVt i (by omega)
      have hT := passT_n (upR r) i
      have e7 : passT (upR r) i 7 = r 7 := (hT 7 (by decide)).trans ((upR_k r (by decide)).trans (passS_n r (nC r)).2.2.2.2.2.2.2)
      obtain ⟨hb0, -, -, -, -, -, -, -, hb8⟩ := hM2.1
      have eC : nC (passT (upR r) i) = nC r := (nC_of (hT 7 (by decide))).trans (upR_nC r)
      obtain ⟨hv0, -, -, -, -, -⟩ := hV2.1
      obtain ⟨-, -, -, c3, -, -, -, -, -⟩ := hM2.2.2 (i) (by omega)
      obtain ⟨-, -, -, w3, -, -, -⟩ := hV2.2.2 (i) (by omega)
      refine G.iload_n X 55 dX4_passHour_54 rfl rfl ?_
      refine G.aload_n X 56 dX4_passHour_55 rfl rfl ?_
      refine G.getI X fl_X4_50 59 dX4_passHour_56 rfl (hS).1 ((hS).2.1 8 (by decide)) ?_
      refine G.icmp_ge X 89 62 dX4_passHour_59 (by decide) rfl (by omega) (by omega) (fun hc59 => ?_) (fun hc59 => ?_)
      · exfalso; omega
      · refine G.aload_n X 63 dX4_passHour_62 rfl rfl ?_
        refine G.getR X fl_X4_26 66 dX4_passHour_63 rfl (hS).1 (hS).2.2.2.1 ?_
        refine G.iload_n X 67 dX4_passHour_66 rfl rfl ?_
        refine G.aald X 68 dX4_passHour_67 rfl (ShSt.kc hS) (by decide) (ShSt.rc hS (by omega)) rfl (by omega) (by decide) ?_
        refine G.getI X fl_X4_146 71 dX4_passHour_68 rfl (ShSt.c hS (by omega)).1 ((ShSt.c hS (by omega)).2 3) ?_
        refine G.aload_n X 72 dX4_passHour_71 rfl rfl ?_
        refine G.getI X fl_X4_32 75 dX4_passHour_72 rfl (hS).1 ((hS).2.1 0 (by decide)) ?_
        refine G.icmp_ne X 83 78 dX4_passHour_75 (by decide) rfl (by omega) (by omega) (fun hc75 => ?_) (fun hc75 => ?_)
        · refine G.iinc (ls' := [_, _]) X 86 dX4_passHour_83 rfl rfl (by decide) rfl ?_
          refine G.goto X 54 dX4_passHour_86 (by decide) ?_
          refine ih (i + 1) _ (by omega) ?_ ?_
          · rw [passT_s]
            first
              | (rw [if_pos (by omega)]; exact h80.1)
              | (rw [if_neg (by omega)]; exact hM2)
          · first
              | exact hO2.trans h80.2
              | exact hO2
        · refine G.aload_n X 79 dX4_passHour_78 rfl rfl ?_
          refine G.iload_n X 80 dX4_passHour_79 rfl rfl ?_
          refine G.vV1 (d := 2) X ml_X4_149 yv_X4_release 83 dX4_passHour_80 rfl (c_X4_release l D Bs _ kd rf _ _ _ _ (hS) hV2 hM2 (by omega)) ⟨_, _, (hS).1, rfl, rfl⟩ (by decide) ⟨Nat.zero_le _, Nat.zero_le _⟩ (Nat.le_of_ble_eq_true rfl) (fun M80 h80 => ?_)
          refine G.iinc (ls' := [_, _]) X 86 dX4_passHour_83 rfl rfl (by decide) rfl ?_
          refine G.goto X 54 dX4_passHour_86 (by decide) ?_
          refine ih (i + 1) _ (by omega) ?_ ?_
          · rw [passT_s]
            first
              | (rw [if_pos (by omega)]; exact h80.1)
              | (rw [if_neg (by omega)]; exact hM2)
          · first
              | exact hO2.trans h80.2
              | exact hO2
  have L2 : ∀ (k : Nat) (i : Nat) (M1 : xM), i + k = nC r → St M1 b (passS r i) → Off M M1 b 25 → G p l e (rmd 4) s m args below meth c D Bs 2 0 0 (MQ below (xQ D Bs (pV sz kd rf (fun M' => St M' b (hourR r) ∧ Off M M' b 25))) args s 0 0 (fun q => Bs ≤ q)) sz kd rf (M1) 2 [some (.ref b), some (vi (i : Int))] [] := by
    intro k
    induction k with
    | zero =>
      intro i M1 hik hM1 hO1
      have hV1 := hVs i (by omega)
      obtain ⟨eS, eC, e0, e1, e2, e3, e6, e7⟩ := passS_n r i
      obtain ⟨n6, n6b⟩ := hV.n6
      obtain ⟨hb0, -, -, -, -, -, -, -, hb8⟩ := hM1.1
      obtain ⟨hv0, -, -, -, -, -⟩ := hV1.1
      obtain rfl : i = nC r := by omega
      refine G.iload_n X 3 dX4_passHour_2 rfl rfl ?_
      refine G.aload_n X 4 dX4_passHour_3 rfl rfl ?_
      refine G.getI X fl_X4_50 7 dX4_passHour_4 rfl (hS).1 ((hS).2.1 8 (by decide)) ?_
      refine G.icmp_ge X 42 10 dX4_passHour_7 (by decide) rfl (by omega) (by omega) (fun hc7 => ?_) (fun hc7 => ?_)
      · refine G.aload_n X 43 dX4_passHour_42 rfl rfl ?_
        refine G.dup X 44 dX4_passHour_43 rfl rfl ?_
        refine G.getf (v := vi (passS r (nC r) 0)) X fl_X4_32 47 dX4_passHour_44 rfl (hS).1 ((xV_int ((hS).2.1 0 (by decide))).trans (congrArg vi ?_)) ?_
        · exact hb0
        refine G.iconst X 48 dX4_passHour_47 rfl ?_
        refine G.iadd X 49 dX4_passHour_48 rfl ?_
        refine G.putI X fl_X4_32 fi_4_0 rfl 52 dX4_passHour_49 rfl (hS).1 ((hS).2.1 0 (by decide)) ?_
        refine G.iconst X 53 dX4_passHour_52 rfl ?_
        refine G.istore_n (ls' := [_, _]) X 54 dX4_passHour_53 rfl (by decide) rfl ?_
        exact L54 (nC r) 0 _ (by omega) (hM1.set0 (k := 0) (j := 0) (by rw [eS, eC]; exact ⟨n6b, n7b⟩) (by decide)) (hO1.mu (by omega))
      · exfalso; omega
    | succ k ih =>
      intro i M1 hik hM1 hO1
      have hV1 := hVs i (by omega)
      obtain ⟨eS, eC, e0, e1, e2, e3, e6, e7⟩ := passS_n r i
      obtain ⟨n6, n6b⟩ := hV.n6
      obtain ⟨hb0, -, -, -, -, -, -, -, hb8⟩ := hM1.1
      obtain ⟨hv0, -, -, -, -, -⟩ := hV1.1
      obtain ⟨-, -, c2, c3, -, -, -, -, -⟩ := hM1.2.2 (i) (by omega)
      obtain ⟨-, -, w2, w3, -, -, -⟩ := hV1.2.2 (i) (by omega)
      refine G.iload_n X 3 dX4_passHour_2 rfl rfl ?_
      refine G.aload_n X 4 dX4_passHour_3 rfl rfl ?_
      refine G.getI X fl_X4_50 7 dX4_passHour_4 rfl (hS).1 ((hS).2.1 8 (by decide)) ?_
      refine G.icmp_ge X 42 10 dX4_passHour_7 (by decide) rfl (by omega) (by omega) (fun hc7 => ?_) (fun hc7 => ?_)
      · exfalso; omega
      · refine G.aload_n X 11 dX4_passHour_10 rfl rfl ?_
        refine G.getR X fl_X4_26 14 dX4_passHour_11 rfl (hS).1 (hS).2.2.2.1 ?_
        refine G.iload_n X 15 dX4_passHour_14 rfl rfl ?_
        refine G.aald X 16 dX4_passHour_15 rfl (ShSt.kc hS) (by decide) (ShSt.rc hS (by omega)) rfl (by omega) (by decide) ?_
        refine G.aload_n X 17 dX4_passHour_16 rfl rfl ?_
        refine G.getI X fl_X4_32 20 dX4_passHour_17 rfl (hS).1 ((hS).2.1 0 (by decide)) ?_
        refine G.vI1 (d := 0) X ml_X4_115 yv_X0_isOpenIn 23 dX4_passHour_20 rfl (c_X0_isOpenIn l D Bs _ kd rf _ _ _ (ShSt.c hS (by omega)) (by omega) (by omega) (by omega)) ⟨_, _, (ShSt.c hS (by omega)).1, rfl, rfl⟩ (by decide) ⟨Nat.zero_le _, Nat.zero_le _⟩ (Nat.le_of_ble_eq_true rfl) (fun r20 M20 h20 => ?_)
        obtain ⟨hr20, hm20⟩ := h20
        subst hr20
        obtain rfl := hm20.symm
        refine G.ifb_eq X 36 26 dX4_passHour_23 (by decide) rfl (fun hc23 => ?_) (fun hc23 => ?_)
        · refine G.iinc (ls' := [_, _]) X 39 dX4_passHour_36 rfl rfl (by decide) rfl ?_
          refine G.goto X 2 dX4_passHour_39 (by decide) ?_
          refine ih (i + 1) _ (by omega) ?_ ?_
          · rw [passS_s]
            first
              | (rw [if_pos (openB_iff.mpr (by omega))]; exact h33.1)
              | (rw [if_neg (fun q => by have := openB_iff.mp q; omega)]; exact hM1)
          · first
              | exact hO1.trans h33.2
              | exact hO1
        · refine G.aload_n X 27 dX4_passHour_26 rfl rfl ?_
          refine G.aload_n X 28 dX4_passHour_27 rfl rfl ?_
          refine G.getR X fl_X4_26 31 dX4_passHour_28 rfl (hS).1 (hS).2.2.2.1 ?_
          refine G.iload_n X 32 dX4_passHour_31 rfl rfl ?_
          refine G.aald X 33 dX4_passHour_32 rfl (ShSt.kc hS) (by decide) (ShSt.rc hS (by omega)) rfl (by omega) (by decide) ?_
          refine G.vV1 (d := 3) X ml_X4_143 yv_X4_lightOrDarken 36 dX4_passHour_33 rfl (c_X4_lightOrDarken l D Bs _ kd rf _ _ _ _ (hS) hV1 hM1 (by omega)) ⟨_, _, (hS).1, rfl, rfl⟩ (by decide) ⟨Nat.zero_le _, Nat.zero_le _⟩ (Nat.le_of_ble_eq_true rfl) (fun M33 h33 => ?_)
          refine G.iinc (ls' := [_, _]) X 39 dX4_passHour_36 rfl rfl (by decide) rfl ?_
          refine G.goto X 2 dX4_passHour_39 (by decide) ?_
          refine ih (i + 1) _ (by omega) ?_ ?_
          · rw [passS_s]
            first
              | (rw [if_pos (openB_iff.mpr (by omega))]; exact h33.1)
              | (rw [if_neg (fun q => by have := openB_iff.mp q; omega)]; exact hM1)
          · first
              | exact hO1.trans h33.2
              | exact hO1
  refine G.iconst X 1 dX4_passHour_0 rfl ?_
  refine G.istore_n (ls' := [_, _]) X 2 dX4_passHour_1 rfl (by decide) rfl ?_
  exact L2 (nC r) 0 M (by omega) hM Off.rf
def yardZ (r : xR) : Nat → Int
  | 0 => 0
  | n + 1 => yardZ r n + (if fS r n 5 = 0 then 1 else 0)
theorem yardZ_s (r : xR) (n : Nat) : yardZ r (n + 1) = yardZ r n + (if fS r n 5 = 0 then 1 else 0) := rfl
set_option maxHeartbeats 4000000 in
set_option maxRecDepth 100000 in
theorem c_X4_yardSize (l : Launch) (D : xD) (Bs sz : Nat) (kd : xKd) (rf : xRf) (M : xM) (b : Nat) (r : xR) (hS : ShSt kd rf b) (hV : Vk r) (hM : St M b r) : CtI l D Bs yX4_yardSize cX4_yardSize 3 (some .int) 0 [.ref b] sz kd rf M (fun q M' => q = yardZ r (nS r) ∧ M' = M) := by
  refine Ctr.of (yv_X4_yardSize.1.2.2.2.2) (List.forall_mem_cons.mpr ⟨rfl, fun _ h => absurd h List.not_mem_nil⟩) (Nat.le_of_ble_eq_true rfl) [some (.ref b), none, none] rfl ?_
  intro p e s m args below meth c X hin
  obtain ⟨-, -, -, -, -, -, -, hb7, -⟩ := hM.1
  obtain ⟨n6, n6b⟩ := hV.n6
  obtain ⟨n7, n7b⟩ := hV.n7
  have L4 : ∀ (k : Nat) (i : Nat) (q : Int), i + k = nS r → q = yardZ r i → G p l e (rmd 0) s m args below meth c D Bs 3 0 0 (MQ below (xQ D Bs (pI sz kd rf (fun q M' => q = yardZ r (nS r) ∧ M' = M))) args s 0 0 (fun q => Bs ≤ q)) sz kd rf (M) 4 [some (.ref b), some (vi q), some (vi (i : Int))] [] := by
    intro k
    induction k with
    | zero =>
      intro i q hik hq
      refine G.iload_n X 5 dX4_yardSize_4 rfl rfl ?_
      refine G.aload_n X 6 dX4_yardSize_5 rfl rfl ?_
      refine G.getI X fl_X4_47 9 dX4_yardSize_6 rfl (hS).1 ((hS).2.1 7 (by decide)) ?_
      refine G.icmp_ge X 40 12 dX4_yardSize_9 (by decide) rfl (by omega) (by omega) (fun hc9 => ?_) (fun hc9 => ?_)
      · refine G.iload_n X 41 dX4_yardSize_40 rfl rfl ?_
        refine G.iret X dX4_yardSize_41 ⟨Nat.le_refl _, Nat.le_refl _⟩ ⟨rfl, rfl, rfl, _, rfl, ?_⟩
        exact ⟨by rw [hq, show nS r = i by omega], rfl⟩
      · exfalso; omega
    | succ k ih =>
      intro i q hik hq
      obtain ⟨-, -, -, -, -, g5, -, -, -⟩ := hM.2.1 (i) (by omega)
      obtain ⟨-, -, -, -, -, u5, -, -⟩ := hV.2.1 (i) (by omega)
      refine G.iload_n X 5 dX4_yardSize_4 rfl rfl ?_
      refine G.aload_n X 6 dX4_yardSize_5 rfl rfl ?_
      refine G.getI X fl_X4_47 9 dX4_yardSize_6 rfl (hS).1 ((hS).2.1 7 (by decide)) ?_
      refine G.icmp_ge X 40 12 dX4_yardSize_9 (by decide) rfl (by omega) (by omega) (fun hc9 => ?_) (fun hc9 => ?_)
      · exfalso; omega
      · refine G.iload_n X 13 dX4_yardSize_12 rfl rfl ?_
        refine G.aload_n X 14 dX4_yardSize_13 rfl rfl ?_
        refine G.getR X fl_X4_20 17 dX4_yardSize_14 rfl (hS).1 (hS).2.2.1 ?_
        refine G.iload_n X 18 dX4_yardSize_17 rfl rfl ?_
        refine G.aald X 19 dX4_yardSize_18 rfl (ShSt.kg hS) (by decide) (ShSt.rg hS (by omega)) rfl (by omega) (by decide) ?_
        refine G.getI X fl_X4_101 22 dX4_yardSize_19 rfl (ShSt.g hS (by omega)).1 ((ShSt.g hS (by omega)).2 5) ?_
        refine G.bipush X 24 dX4_yardSize_22 rfl (by decide) ?_
        refine G.icmp_ne X 31 27 dX4_yardSize_24 (by decide) rfl (by omega) (by omega) (fun hc24 => ?_) (fun hc24 => ?_)
        · refine G.iconst X 32 dX4_yardSize_31 rfl ?_
          refine G.iadd X 33 dX4_yardSize_32 rfl ?_
          refine G.istore_n (ls' := [_, _, _]) X 34 dX4_yardSize_33 rfl (by decide) rfl ?_
          refine G.iinc (ls' := [_, _, _]) X 37 dX4_yardSize_34 rfl rfl (by decide) rfl ?_
          refine G.goto X 4 dX4_yardSize_37 (by decide) ?_
          refine ih (i + 1) _ (by omega) ?_
          rw [yardZ_s]
          first
            | (rw [if_pos (by omega)]; omega)
            | (rw [if_neg (by omega)]; omega)
        · refine G.iconst X 28 dX4_yardSize_27 rfl ?_
          refine G.goto X 32 dX4_yardSize_28 (by decide) ?_
          refine G.iadd X 33 dX4_yardSize_32 rfl ?_
          refine G.istore_n (ls' := [_, _, _]) X 34 dX4_yardSize_33 rfl (by decide) rfl ?_
          refine G.iinc (ls' := [_, _, _]) X 37 dX4_yardSize_34 rfl rfl (by decide) rfl ?_
          refine G.goto X 4 dX4_yardSize_37 (by decide) ?_
          refine ih (i + 1) _ (by omega) ?_
          rw [yardZ_s]
          first
            | (rw [if_pos (by omega)]; omega)
            | (rw [if_neg (by omega)]; omega)
  refine G.iconst X 1 dX4_yardSize_0 rfl ?_
  refine G.istore_n (ls' := [_, _, _]) X 2 dX4_yardSize_1 rfl (by decide) rfl ?_
  refine G.iconst X 3 dX4_yardSize_2 rfl ?_
  refine G.istore_n (ls' := [_, _, _]) X 4 dX4_yardSize_3 rfl (by decide) rfl ?_
  exact L4 (nS r) 0 0 (by omega) rfl
set_option maxHeartbeats 4000000 in
set_option maxRecDepth 100000 in
theorem c_X4_fuelInTanks (l : Launch) (D : xD) (Bs sz : Nat) (kd : xKd) (rf : xRf) (M : xM) (b : Nat) (r : xR) (hS : ShSt kd rf b) (hV : Vk r) (hM : St M b r) : CtI l D Bs yX4_fuelInTanks cX4_fuelInTanks 3 (some .int) 0 [.ref b] sz kd rf M (fun q M' => q = sumN (fun i => fS r i 4) (nS r) ∧ M' = M) := by
  refine Ctr.of (yv_X4_fuelInTanks.1.2.2.2.2) (List.forall_mem_cons.mpr ⟨rfl, fun _ h => absurd h List.not_mem_nil⟩) (Nat.le_of_ble_eq_true rfl) [some (.ref b), none, none] rfl ?_
  intro p e s m args below meth c X hin
  obtain ⟨-, -, -, -, -, -, -, hb7, hb8⟩ := hM.1
  obtain ⟨n6, n6b⟩ := hV.n6
  obtain ⟨n7, n7b⟩ := hV.n7
  have L4 : ∀ (k : Nat) (i : Nat) (q : Int), i + k = nS r → q = sumN (fun i => fS r i 4) i → G p l e (rmd 0) s m args below meth c D Bs 3 0 0 (MQ below (xQ D Bs (pI sz kd rf (fun q M' => q = sumN (fun i => fS r i 4) (nS r) ∧ M' = M))) args s 0 0 (fun q => Bs ≤ q)) sz kd rf (M) 4 [some (.ref b), some (vi q), some (vi (i : Int))] [] := by
    intro k
    induction k with
    | zero =>
      intro i q hik hq
      refine G.iload_n X 5 dX4_fuelInTanks_4 rfl rfl ?_
      refine G.aload_n X 6 dX4_fuelInTanks_5 rfl rfl ?_
      refine G.getI X fl_X4_47 9 dX4_fuelInTanks_6 rfl (hS).1 ((hS).2.1 7 (by decide)) ?_
      refine G.icmp_ge X 30 12 dX4_fuelInTanks_9 (by decide) rfl (by omega) (by omega) (fun hc9 => ?_) (fun hc9 => ?_)
      · refine G.iload_n X 31 dX4_fuelInTanks_30 rfl rfl ?_
        refine G.iret X dX4_fuelInTanks_31 ⟨Nat.le_refl _, Nat.le_refl _⟩ ⟨rfl, rfl, rfl, _, rfl, ?_⟩
        exact ⟨by rw [hq, show nS r = i by omega], rfl⟩
      · exfalso; omega
    | succ k ih =>
      intro i q hik hq
      obtain ⟨-, -, -, -, g4, -, -, -, -⟩ := hM.2.1 (i) (by omega)
      refine G.iload_n X 5 dX4_fuelInTanks_4 rfl rfl ?_
      refine G.aload_n X 6 dX4_fuelInTanks_5 rfl rfl ?_
      refine G.getI X fl_X4_47 9 dX4_fuelInTanks_6 rfl (hS).1 ((hS).2.1 7 (by decide)) ?_
      refine G.icmp_ge X 30 12 dX4_fuelInTanks_9 (by decide) rfl (by omega) (by omega) (fun hc9 => ?_) (fun hc9 => ?_)
      · exfalso; omega
      · refine G.iload_n X 13 dX4_fuelInTanks_12 rfl rfl ?_
        refine G.aload_n X 14 dX4_fuelInTanks_13 rfl rfl ?_
        refine G.getR X fl_X4_20 17 dX4_fuelInTanks_14 rfl (hS).1 (hS).2.2.1 ?_
        refine G.iload_n X 18 dX4_fuelInTanks_17 rfl rfl ?_
        refine G.aald X 19 dX4_fuelInTanks_18 rfl (ShSt.kg hS) (by decide) (ShSt.rg hS (by omega)) rfl (by omega) (by decide) ?_
        refine G.getI X fl_X4_76 22 dX4_fuelInTanks_19 rfl (ShSt.g hS (by omega)).1 ((ShSt.g hS (by omega)).2 4) ?_
        refine G.iadd X 23 dX4_fuelInTanks_22 rfl ?_
        refine G.istore_n (ls' := [_, _, _]) X 24 dX4_fuelInTanks_23 rfl (by decide) rfl ?_
        refine G.iinc (ls' := [_, _, _]) X 27 dX4_fuelInTanks_24 rfl rfl (by decide) rfl ?_
        refine G.goto X 4 dX4_fuelInTanks_27 (by decide) ?_
        refine ih (i + 1) _ (by omega) ?_
        rw [sumN_s, g4, hq]
  refine G.iconst X 1 dX4_fuelInTanks_0 rfl ?_
  refine G.istore_n (ls' := [_, _, _]) X 2 dX4_fuelInTanks_1 rfl (by decide) rfl ?_
  refine G.iconst X 3 dX4_fuelInTanks_2 rfl ?_
  refine G.istore_n (ls' := [_, _, _]) X 4 dX4_fuelInTanks_3 rfl (by decide) rfl ?_
  exact L4 (nS r) 0 0 (by omega) rfl
set_option maxHeartbeats 4000000 in
set_option maxRecDepth 100000 in
theorem c_X4_litTotal (l : Launch) (D : xD) (Bs sz : Nat) (kd : xKd) (rf : xRf) (M : xM) (b : Nat) (r : xR) (hS : ShSt kd rf b) (hV : Vk r) (hM : St M b r) : CtI l D Bs yX4_litTotal cX4_litTotal 3 (some .int) 0 [.ref b] sz kd rf M (fun q M' => q = sumN (fun i => fC r i 5) (nC r) ∧ M' = M) := by
  refine Ctr.of (yv_X4_litTotal.1.2.2.2.2) (List.forall_mem_cons.mpr ⟨rfl, fun _ h => absurd h List.not_mem_nil⟩) (Nat.le_of_ble_eq_true rfl) [some (.ref b), none, none] rfl ?_
  intro p e s m args below meth c X hin
  obtain ⟨-, -, -, -, -, -, -, hb7, hb8⟩ := hM.1
  obtain ⟨n6, n6b⟩ := hV.n6
  obtain ⟨n7, n7b⟩ := hV.n7
  have L4 : ∀ (k : Nat) (i : Nat) (q : Int), i + k = nC r → q = sumN (fun i => fC r i 5) i → G p l e (rmd 0) s m args below meth c D Bs 3 0 0 (MQ below (xQ D Bs (pI sz kd rf (fun q M' => q = sumN (fun i => fC r i 5) (nC r) ∧ M' = M))) args s 0 0 (fun q => Bs ≤ q)) sz kd rf (M) 4 [some (.ref b), some (vi q), some (vi (i : Int))] [] := by
    intro k
    induction k with
    | zero =>
      intro i q hik hq
      refine G.iload_n X 5 dX4_litTotal_4 rfl rfl ?_
      refine G.aload_n X 6 dX4_litTotal_5 rfl rfl ?_
      refine G.getI X fl_X4_50 9 dX4_litTotal_6 rfl (hS).1 ((hS).2.1 8 (by decide)) ?_
      refine G.icmp_ge X 30 12 dX4_litTotal_9 (by decide) rfl (by omega) (by omega) (fun hc9 => ?_) (fun hc9 => ?_)
      · refine G.iload_n X 31 dX4_litTotal_30 rfl rfl ?_
        refine G.iret X dX4_litTotal_31 ⟨Nat.le_refl _, Nat.le_refl _⟩ ⟨rfl, rfl, rfl, _, rfl, ?_⟩
        exact ⟨by rw [hq, show nC r = i by omega], rfl⟩
      · exfalso; omega
    | succ k ih =>
      intro i q hik hq
      obtain ⟨-, -, -, -, -, g5, -, -, -⟩ := hM.2.2 (i) (by omega)
      refine G.iload_n X 5 dX4_litTotal_4 rfl rfl ?_
      refine G.aload_n X 6 dX4_litTotal_5 rfl rfl ?_
      refine G.getI X fl_X4_50 9 dX4_litTotal_6 rfl (hS).1 ((hS).2.1 8 (by decide)) ?_
      refine G.icmp_ge X 30 12 dX4_litTotal_9 (by decide) rfl (by omega) (by omega) (fun hc9 => ?_) (fun hc9 => ?_)
      · exfalso; omega
      · refine G.iload_n X 13 dX4_litTotal_12 rfl rfl ?_
        refine G.aload_n X 14 dX4_litTotal_13 rfl rfl ?_
        refine G.getR X fl_X4_26 17 dX4_litTotal_14 rfl (hS).1 (hS).2.2.2.1 ?_
        refine G.iload_n X 18 dX4_litTotal_17 rfl rfl ?_
        refine G.aald X 19 dX4_litTotal_18 rfl (ShSt.kc hS) (by decide) (ShSt.rc hS (by omega)) rfl (by omega) (by decide) ?_
        refine G.getI X fl_X4_171 22 dX4_litTotal_19 rfl (ShSt.c hS (by omega)).1 ((ShSt.c hS (by omega)).2 5) ?_
        refine G.iadd X 23 dX4_litTotal_22 rfl ?_
        refine G.istore_n (ls' := [_, _, _]) X 24 dX4_litTotal_23 rfl (by decide) rfl ?_
        refine G.iinc (ls' := [_, _, _]) X 27 dX4_litTotal_24 rfl rfl (by decide) rfl ?_
        refine G.goto X 4 dX4_litTotal_27 (by decide) ?_
        refine ih (i + 1) _ (by omega) ?_
        rw [sumN_s, g5, hq]
  refine G.iconst X 1 dX4_litTotal_0 rfl ?_
  refine G.istore_n (ls' := [_, _, _]) X 2 dX4_litTotal_1 rfl (by decide) rfl ?_
  refine G.iconst X 3 dX4_litTotal_2 rfl ?_
  refine G.istore_n (ls' := [_, _, _]) X 4 dX4_litTotal_3 rfl (by decide) rfl ?_
  exact L4 (nC r) 0 0 (by omega) rfl
set_option maxHeartbeats 4000000 in
set_option maxRecDepth 100000 in
theorem c_X4_darkTotal (l : Launch) (D : xD) (Bs sz : Nat) (kd : xKd) (rf : xRf) (M : xM) (b : Nat) (r : xR) (hS : ShSt kd rf b) (hV : Vk r) (hM : St M b r) : CtI l D Bs yX4_darkTotal cX4_darkTotal 3 (some .int) 0 [.ref b] sz kd rf M (fun q M' => q = sumN (fun i => fC r i 6) (nC r) ∧ M' = M) := by
  refine Ctr.of (yv_X4_darkTotal.1.2.2.2.2) (List.forall_mem_cons.mpr ⟨rfl, fun _ h => absurd h List.not_mem_nil⟩) (Nat.le_of_ble_eq_true rfl) [some (.ref b), none, none] rfl ?_
  intro p e s m args below meth c X hin
  obtain ⟨-, -, -, -, -, -, -, hb7, hb8⟩ := hM.1
  obtain ⟨n6, n6b⟩ := hV.n6
  obtain ⟨n7, n7b⟩ := hV.n7
  have L4 : ∀ (k : Nat) (i : Nat) (q : Int), i + k = nC r → q = sumN (fun i => fC r i 6) i → G p l e (rmd 0) s m args below meth c D Bs 3 0 0 (MQ below (xQ D Bs (pI sz kd rf (fun q M' => q = sumN (fun i => fC r i 6) (nC r) ∧ M' = M))) args s 0 0 (fun q => Bs ≤ q)) sz kd rf (M) 4 [some (.ref b), some (vi q), some (vi (i : Int))] [] := by
    intro k
    induction k with
    | zero =>
      intro i q hik hq
      refine G.iload_n X 5 dX4_darkTotal_4 rfl rfl ?_
      refine G.aload_n X 6 dX4_darkTotal_5 rfl rfl ?_
      refine G.getI X fl_X4_50 9 dX4_darkTotal_6 rfl (hS).1 ((hS).2.1 8 (by decide)) ?_
      refine G.icmp_ge X 30 12 dX4_darkTotal_9 (by decide) rfl (by omega) (by omega) (fun hc9 => ?_) (fun hc9 => ?_)
      · refine G.iload_n X 31 dX4_darkTotal_30 rfl rfl ?_
        refine G.iret X dX4_darkTotal_31 ⟨Nat.le_refl _, Nat.le_refl _⟩ ⟨rfl, rfl, rfl, _, rfl, ?_⟩
        exact ⟨by rw [hq, show nC r = i by omega], rfl⟩
      · exfalso; omega
    | succ k ih =>
      intro i q hik hq
      obtain ⟨-, -, -, -, -, -, g6, -, -⟩ := hM.2.2 (i) (by omega)
      refine G.iload_n X 5 dX4_darkTotal_4 rfl rfl ?_
      refine G.aload_n X 6 dX4_darkTotal_5 rfl rfl ?_
      refine G.getI X fl_X4_50 9 dX4_darkTotal_6 rfl (hS).1 ((hS).2.1 8 (by decide)) ?_
      refine G.icmp_ge X 30 12 dX4_darkTotal_9 (by decide) rfl (by omega) (by omega) (fun hc9 => ?_) (fun hc9 => ?_)
      · exfalso; omega
      · refine G.iload_n X 13 dX4_darkTotal_12 rfl rfl ?_
        refine G.aload_n X 14 dX4_darkTotal_13 rfl rfl ?_
        refine G.getR X fl_X4_26 17 dX4_darkTotal_14 rfl (hS).1 (hS).2.2.2.1 ?_
        refine G.iload_n X 18 dX4_darkTotal_17 rfl rfl ?_
        refine G.aald X 19 dX4_darkTotal_18 rfl (ShSt.kc hS) (by decide) (ShSt.rc hS (by omega)) rfl (by omega) (by decide) ?_
        refine G.getI X fl_X4_168 22 dX4_darkTotal_19 rfl (ShSt.c hS (by omega)).1 ((ShSt.c hS (by omega)).2 6) ?_
        refine G.iadd X 23 dX4_darkTotal_22 rfl ?_
        refine G.istore_n (ls' := [_, _, _]) X 24 dX4_darkTotal_23 rfl (by decide) rfl ?_
        refine G.iinc (ls' := [_, _, _]) X 27 dX4_darkTotal_24 rfl rfl (by decide) rfl ?_
        refine G.goto X 4 dX4_darkTotal_27 (by decide) ?_
        refine ih (i + 1) _ (by omega) ?_
        rw [sumN_s, g6, hq]
  refine G.iconst X 1 dX4_darkTotal_0 rfl ?_
  refine G.istore_n (ls' := [_, _, _]) X 2 dX4_darkTotal_1 rfl (by decide) rfl ?_
  refine G.iconst X 3 dX4_darkTotal_2 rfl ?_
  refine G.istore_n (ls' := [_, _, _]) X 4 dX4_darkTotal_3 rfl (by decide) rfl ?_
  exact L4 (nC r) 0 0 (by omega) rfl
set_option maxHeartbeats 4000000 in
set_option maxRecDepth 100000 in
theorem c_X4_billTotal (l : Launch) (D : xD) (Bs sz : Nat) (kd : xKd) (rf : xRf) (M : xM) (b : Nat) (r : xR) (hS : ShSt kd rf b) (hV : Vk r) (hM : St M b r) : CtI l D Bs yX4_billTotal cX4_billTotal 3 (some .int) 0 [.ref b] sz kd rf M (fun q M' => q = sumN (fun i => fC r i 7) (nC r) ∧ M' = M) := by
  refine Ctr.of (yv_X4_billTotal.1.2.2.2.2) (List.forall_mem_cons.mpr ⟨rfl, fun _ h => absurd h List.not_mem_nil⟩) (Nat.le_of_ble_eq_true rfl) [some (.ref b), none, none] rfl ?_
  intro p e s m args below meth c X hin
  obtain ⟨-, -, -, -, -, -, -, hb7, hb8⟩ := hM.1
  obtain ⟨n6, n6b⟩ := hV.n6
  obtain ⟨n7, n7b⟩ := hV.n7
  have L4 : ∀ (k : Nat) (i : Nat) (q : Int), i + k = nC r → q = sumN (fun i => fC r i 7) i → G p l e (rmd 0) s m args below meth c D Bs 3 0 0 (MQ below (xQ D Bs (pI sz kd rf (fun q M' => q = sumN (fun i => fC r i 7) (nC r) ∧ M' = M))) args s 0 0 (fun q => Bs ≤ q)) sz kd rf (M) 4 [some (.ref b), some (vi q), some (vi (i : Int))] [] := by
    intro k
    induction k with
    | zero =>
      intro i q hik hq
      refine G.iload_n X 5 dX4_billTotal_4 rfl rfl ?_
      refine G.aload_n X 6 dX4_billTotal_5 rfl rfl ?_
      refine G.getI X fl_X4_50 9 dX4_billTotal_6 rfl (hS).1 ((hS).2.1 8 (by decide)) ?_
      refine G.icmp_ge X 30 12 dX4_billTotal_9 (by decide) rfl (by omega) (by omega) (fun hc9 => ?_) (fun hc9 => ?_)
      · refine G.iload_n X 31 dX4_billTotal_30 rfl rfl ?_
        refine G.iret X dX4_billTotal_31 ⟨Nat.le_refl _, Nat.le_refl _⟩ ⟨rfl, rfl, rfl, _, rfl, ?_⟩
        exact ⟨by rw [hq, show nC r = i by omega], rfl⟩
      · exfalso; omega
    | succ k ih =>
      intro i q hik hq
      obtain ⟨-, -, -, -, -, -, -, g7, -⟩ := hM.2.2 (i) (by omega)
      refine G.iload_n X 5 dX4_billTotal_4 rfl rfl ?_
      refine G.aload_n X 6 dX4_billTotal_5 rfl rfl ?_
      refine G.getI X fl_X4_50 9 dX4_billTotal_6 rfl (hS).1 ((hS).2.1 8 (by decide)) ?_
      refine G.icmp_ge X 30 12 dX4_billTotal_9 (by decide) rfl (by omega) (by omega) (fun hc9 => ?_) (fun hc9 => ?_)
      · exfalso; omega
      · refine G.iload_n X 13 dX4_billTotal_12 rfl rfl ?_
        refine G.aload_n X 14 dX4_billTotal_13 rfl rfl ?_
        refine G.getR X fl_X4_26 17 dX4_billTotal_14 rfl (hS).1 (hS).2.2.2.1 ?_
        refine G.iload_n X 18 dX4_billTotal_17 rfl rfl ?_
        refine G.aald X 19 dX4_billTotal_18 rfl (ShSt.kc hS) (by decide) (ShSt.rc hS (by omega)) rfl (by omega) (by decide) ?_
        refine G.getI X fl_X4_174 22 dX4_billTotal_19 rfl (ShSt.c hS (by omega)).1 ((ShSt.c hS (by omega)).2 7) ?_
        refine G.iadd X 23 dX4_billTotal_22 rfl ?_
        refine G.istore_n (ls' := [_, _, _]) X 24 dX4_billTotal_23 rfl (by decide) rfl ?_
        refine G.iinc (ls' := [_, _, _]) X 27 dX4_billTotal_24 rfl rfl (by decide) rfl ?_
        refine G.goto X 4 dX4_billTotal_27 (by decide) ?_
        refine ih (i + 1) _ (by omega) ?_
        rw [sumN_s, g7, hq]
  refine G.iconst X 1 dX4_billTotal_0 rfl ?_
  refine G.istore_n (ls' := [_, _, _]) X 2 dX4_billTotal_1 rfl (by decide) rfl ?_
  refine G.iconst X 3 dX4_billTotal_2 rfl ?_
  refine G.istore_n (ls' := [_, _, _]) X 4 dX4_billTotal_3 rfl (by decide) rfl ?_
  exact L4 (nC r) 0 0 (by omega) rfl
def darkM (r r0 : xR) : Nat → Int
  | 0 => 0
  | n + 1 => if darkM r r0 n < fC r n 6 - fC r0 n 6 then fC r n 6 - fC r0 n 6 else darkM r r0 n
def darkB (r r0 : xR) : Nat → Int
  | 0 => -5
  | n + 1 => if darkM r r0 n < fC r n 6 - fC r0 n 6 then (n : Int) else darkB r r0 n
theorem darkM_s (r r0 : xR) (n : Nat) : darkM r r0 (n + 1) = if darkM r r0 n < fC r n 6 - fC r0 n 6 then fC r n 6 - fC r0 n 6 else darkM r r0 n := rfl
theorem darkB_s (r r0 : xR) (n : Nat) : darkB r r0 (n + 1) = if darkM r r0 n < fC r n 6 - fC r0 n 6 then (n : Int) else darkB r r0 n := rfl
set_option maxHeartbeats 4000000 in
set_option maxRecDepth 100000 in
theorem c_X4_darkestSince (l : Launch) (D : xD) (Bs sz : Nat) (kd : xKd) (rf : xRf) (M : xM) (b b0 : Nat) (r r0 : xR) (hS : ShSt kd rf b) (hS0 : ShSt kd rf b0) (hV : Vk r) (hM : St M b r) (hV0 : Vk r0) (hM0 : St M b0 r0) (hn : nC r = nC r0) : CtI l D Bs yX4_darkestSince cX4_darkestSince 6 (some .int) 0 [.ref b, .ref b0] sz kd rf M (fun q M' => q = darkB r r0 (nC r0) ∧ M' = M) := by
  refine Ctr.of (yv_X4_darkestSince.1.2.2.2.2) (List.forall_mem_cons.mpr ⟨rfl, List.forall_mem_cons.mpr ⟨rfl, fun _ h => absurd h List.not_mem_nil⟩⟩) (Nat.le_of_ble_eq_true rfl) [some (.ref b), some (.ref b0), none, none, none, none] rfl ?_
  intro p e s m args below meth c X hin
  obtain ⟨-, -, -, -, -, -, -, -, ha8⟩ := hM0.1
  obtain ⟨n7, n7b⟩ := hV.n7
  obtain ⟨m7, m7b⟩ := hV0.n7
  have L8 : ∀ (k : Nat) (i : Nat) (q t : Int), i + k = nC r0 → q = darkB r r0 i → t = darkM r r0 i → 0 ≤ t ∧ t ≤ 40000 → G p l e (rmd 0) s m args below meth c D Bs 6 0 0 (MQ below (xQ D Bs (pI sz kd rf (fun q M' => q = darkB r r0 (nC r0) ∧ M' = M))) args s 0 0 (fun q => Bs ≤ q)) sz kd rf (M) 8 [some (.ref b), some (.ref b0), some (vi q), some (vi t), some (vi (i : Int)), none] [] := by
    intro k
    induction k with
    | zero =>
      intro i q t hik hq ht htr
      refine G.iload X 10 dX4_darkestSince_8 rfl rfl ?_
      refine G.aload_n X 11 dX4_darkestSince_10 rfl rfl ?_
      refine G.getI X fl_X4_50 14 dX4_darkestSince_11 rfl (hS0).1 ((hS0).2.1 8 (by decide)) ?_
      refine G.icmp_ge X 58 17 dX4_darkestSince_14 (by decide) rfl (by omega) (by omega) (fun hc14 => ?_) (fun hc14 => ?_)
      · refine G.iload_n X 59 dX4_darkestSince_58 rfl rfl ?_
        refine G.iret X dX4_darkestSince_59 ⟨Nat.le_refl _, Nat.le_refl _⟩ ⟨rfl, rfl, rfl, _, rfl, ?_⟩
        exact ⟨by rw [hq, show nC r0 = i by omega], rfl⟩
      · exfalso; omega
    | succ k ih =>
      intro i q t hik hq ht htr
      obtain ⟨-, -, -, -, -, -, g6, -, -⟩ := hM.2.2 (i) (by omega)
      obtain ⟨-, -, -, -, -, -, f6, -, -⟩ := hM0.2.2 (i) (by omega)
      obtain ⟨-, -, -, -, -, u6, -⟩ := hV.2.2 (i) (by omega)
      obtain ⟨-, -, -, -, -, v6, -⟩ := hV0.2.2 (i) (by omega)
      refine G.iload X 10 dX4_darkestSince_8 rfl rfl ?_
      refine G.aload_n X 11 dX4_darkestSince_10 rfl rfl ?_
      refine G.getI X fl_X4_50 14 dX4_darkestSince_11 rfl (hS0).1 ((hS0).2.1 8 (by decide)) ?_
      refine G.icmp_ge X 58 17 dX4_darkestSince_14 (by decide) rfl (by omega) (by omega) (fun hc14 => ?_) (fun hc14 => ?_)
      · exfalso; omega
      · refine G.aload_n X 18 dX4_darkestSince_17 rfl rfl ?_
        refine G.getR X fl_X4_26 21 dX4_darkestSince_18 rfl (hS).1 (hS).2.2.2.1 ?_
        refine G.iload X 23 dX4_darkestSince_21 rfl rfl ?_
        refine G.aald X 24 dX4_darkestSince_23 rfl (ShSt.kc hS) (by decide) (ShSt.rc hS (by omega)) rfl (by omega) (by decide) ?_
        refine G.getI X fl_X4_168 27 dX4_darkestSince_24 rfl (ShSt.c hS (by omega)).1 ((ShSt.c hS (by omega)).2 6) ?_
        refine G.aload_n X 28 dX4_darkestSince_27 rfl rfl ?_
        refine G.getR X fl_X4_26 31 dX4_darkestSince_28 rfl (hS0).1 (hS0).2.2.2.1 ?_
        refine G.iload X 33 dX4_darkestSince_31 rfl rfl ?_
        refine G.aald X 34 dX4_darkestSince_33 rfl (ShSt.kc hS0) (by decide) (ShSt.rc hS0 (by omega)) rfl (by omega) (by decide) ?_
        refine G.getI X fl_X4_168 37 dX4_darkestSince_34 rfl (ShSt.c hS0 (by omega)).1 ((ShSt.c hS0 (by omega)).2 6) ?_
        refine G.isub X 38 dX4_darkestSince_37 rfl ?_
        refine G.istore (ls' := [_, _, _, _, _, _]) X 40 dX4_darkestSince_38 rfl (by decide) rfl ?_
        refine G.iload X 42 dX4_darkestSince_40 rfl rfl ?_
        refine G.iload_n X 43 dX4_darkestSince_42 rfl rfl ?_
        refine G.icmp_le X 52 46 dX4_darkestSince_43 (by decide) rfl (by omega) (by omega) (fun hc43 => ?_) (fun hc43 => ?_)
        · refine G.iinc (ls' := [_, _, _, _, _, _]) X 55 dX4_darkestSince_52 rfl rfl (by decide) rfl ?_
          refine G.goto X 8 dX4_darkestSince_55 (by decide) ?_
          refine G.drop 5 ?_
          refine ih (i + 1) _ _ (by omega) ?_ ?_ (by omega)
          · rw [darkB_s]
            first
              | (rw [if_pos (by omega)]; done)
              | (rw [if_neg (by omega)]; exact hq)
          · rw [darkM_s]
            first
              | (rw [if_pos (by omega)]; omega)
              | (rw [if_neg (by omega)]; exact ht)
        · refine G.iload X 48 dX4_darkestSince_46 rfl rfl ?_
          refine G.istore_n (ls' := [_, _, _, _, _, _]) X 49 dX4_darkestSince_48 rfl (by decide) rfl ?_
          refine G.iload X 51 dX4_darkestSince_49 rfl rfl ?_
          refine G.istore_n (ls' := [_, _, _, _, _, _]) X 52 dX4_darkestSince_51 rfl (by decide) rfl ?_
          refine G.iinc (ls' := [_, _, _, _, _, _]) X 55 dX4_darkestSince_52 rfl rfl (by decide) rfl ?_
          refine G.goto X 8 dX4_darkestSince_55 (by decide) ?_
          refine G.drop 5 ?_
          refine ih (i + 1) _ _ (by omega) ?_ ?_ (by omega)
          · rw [darkB_s]
            first
              | (rw [if_pos (by omega)]; done)
              | (rw [if_neg (by omega)]; exact hq)
          · rw [darkM_s]
            first
              | (rw [if_pos (by omega)]; omega)
              | (rw [if_neg (by omega)]; exact ht)
  refine G.bipush X 2 dX4_darkestSince_0 rfl (by decide) ?_
  refine G.istore_n (ls' := [_, _, _, _, _, _]) X 3 dX4_darkestSince_2 rfl (by decide) rfl ?_
  refine G.iconst X 4 dX4_darkestSince_3 rfl ?_
  refine G.istore_n (ls' := [_, _, _, _, _, _]) X 5 dX4_darkestSince_4 rfl (by decide) rfl ?_
  refine G.iconst X 6 dX4_darkestSince_5 rfl ?_
  refine G.istore (ls' := [_, _, _, _, _, _]) X 8 dX4_darkestSince_6 rfl (by decide) rfl ?_
  exact L8 (nC r0) 0 (-5) 0 (by omega) rfl rfl (by omega)
set_option maxHeartbeats 4000000 in
set_option maxRecDepth 100000 in
theorem c_X4_giverFor (l : Launch) (D : xD) (Bs sz : Nat) (kd : xKd) (rf : xRf) (M : xM) (b j : Nat) (r : xR) (hS : ShSt kd rf b) (hV : Vk r) (hM : St M b r) (hj : j < nC r) : CtI l D Bs yX4_giverFor cX4_giverFor 7 (some .int) 2 [.ref b, vi (j : Int)] sz kd rf M (fun q M' => q = partF r j (nC r) ∧ M' = M) := by
  refine Ctr.of (yv_X4_giverFor.1.2.2.2.2) (List.forall_mem_cons.mpr ⟨rfl, List.forall_mem_cons.mpr ⟨rfl, fun _ h => absurd h List.not_mem_nil⟩⟩) (Nat.le_of_ble_eq_true rfl) [some (.ref b), some (vi (j : Int)), none, none, none, none, none] rfl ?_
  intro p e s m args below meth c X hin
  obtain ⟨-, -, -, -, -, -, -, hb7, hb8⟩ := hM.1
  obtain ⟨n6, n6b⟩ := hV.n6
  obtain ⟨n7, n7b⟩ := hV.n7
  obtain ⟨-, cj1, -, -, -, -, -, -, -⟩ := hM.2.2 (j) hj
  obtain ⟨-, vj1, -, -, -, -, -⟩ := hV.2.2 (j) hj
  have L8 : ∀ (k : Nat) (i : Nat) (q t : Int), i + k = nC r → q = partF r j i → (q = -5 ∧ t = 0 ∨ q ≠ -5 ∧ t = fS r (hasN r q.toNat) 0 ∧ 1 ≤ t ∧ t ≤ 99) → G p l e (rmd 2) s m args below meth c D Bs 7 0 0 (MQ below (xQ D Bs (pI sz kd rf (fun q M' => q = partF r j (nC r) ∧ M' = M))) args s 0 0 (fun q => Bs ≤ q)) sz kd rf (M) 8 [some (.ref b), some (vi (j : Int)), some (vi q), some (vi t), some (vi (i : Int)), none, none] [] := by
    intro k
    induction k with
    | zero =>
      intro i q t hik hq ht
      refine G.iload X 10 dX4_giverFor_8 rfl rfl ?_
      refine G.aload_n X 11 dX4_giverFor_10 rfl rfl ?_
      refine G.getI X fl_X4_50 14 dX4_giverFor_11 rfl (hS).1 ((hS).2.1 8 (by decide)) ?_
      refine G.icmp_ge X 105 17 dX4_giverFor_14 (by decide) rfl (by omega) (by omega) (fun hc14 => ?_) (fun hc14 => ?_)
      · refine G.iload_n X 106 dX4_giverFor_105 rfl rfl ?_
        refine G.iret X dX4_giverFor_106 ⟨Nat.le_refl _, Nat.le_refl _⟩ ⟨rfl, rfl, rfl, _, rfl, ?_⟩
        exact ⟨by rw [hq, show nC r = i by omega], rfl⟩
      · exfalso; omega
    | succ k ih =>
      intro i q t hik hq ht
      obtain ⟨-, -, -, -, c4, -, -, -, -⟩ := hM.2.2 (i) (by omega)
      obtain ⟨-, -, -, -, w4, -, -⟩ := hV.2.2 (i) (by omega)
      have hpl := partF_lim r j i
      have hyl := yardF_lim r i (nS r)
      refine G.iload X 10 dX4_giverFor_8 rfl rfl ?_
      refine G.aload_n X 11 dX4_giverFor_10 rfl rfl ?_
      refine G.getI X fl_X4_50 14 dX4_giverFor_11 rfl (hS).1 ((hS).2.1 8 (by decide)) ?_
      refine G.icmp_ge X 105 17 dX4_giverFor_14 (by decide) rfl (by omega) (by omega) (fun hc14 => ?_) (fun hc14 => ?_)
      · exfalso; omega
      · refine G.aload_n X 18 dX4_giverFor_17 rfl rfl ?_
        refine G.aload_n X 19 dX4_giverFor_18 rfl rfl ?_
        refine G.getR X fl_X4_26 22 dX4_giverFor_19 rfl (hS).1 (hS).2.2.2.1 ?_
        refine G.iload X 24 dX4_giverFor_22 rfl rfl ?_
        refine G.aald X 25 dX4_giverFor_24 rfl (ShSt.kc hS) (by decide) (ShSt.rc hS (by omega)) rfl (by omega) (by decide) ?_
        refine G.vR1 (d := 1) X ml_X4_97 yv_X4_supplyOf 28 dX4_giverFor_25 rfl (c_X4_supplyOf l D Bs _ kd rf _ _ _ (hS) (ShSt.c hS (by omega)) (by omega) (by omega)) ⟨_, _, (hS).1, rfl, rfl⟩ (by decide) ⟨Nat.zero_le _, Nat.zero_le _⟩ (Nat.le_of_ble_eq_true rfl) (fun r25 M25 h25 => ?_)
        obtain ⟨hm25, hz25⟩ := h25
        obtain rfl := hm25.symm
        rcases hz25 with ⟨hn25, hz25⟩ | ⟨i25, hi25, hj25, hn25⟩
        · subst hn25
          refine G.astoreN (ls' := [_, _, _, _, _, _, _]) X 30 dX4_giverFor_28 rfl (by decide) rfl ?_
          refine G.aloadN X 32 dX4_giverFor_30 rfl rfl ?_
          refine G.ifnullN X 67 dX4_giverFor_32 (by decide) ?_
          refine G.iconst X 68 dX4_giverFor_67 rfl ?_
          refine G.istore (ls' := [_, _, _, _, _, _, _]) X 70 dX4_giverFor_68 rfl (by decide) rfl ?_
          refine G.iload X 72 dX4_giverFor_70 rfl rfl ?_
          refine G.if_eq X 99 75 dX4_giverFor_72 (by decide) rfl (by omega) (fun hc72 => ?_) (fun hc72 => ?_)
          · refine G.iinc (ls' := [_, _, _, _, _, _, _]) X 102 dX4_giverFor_99 rfl rfl (by decide) rfl ?_
            refine G.goto X 8 dX4_giverFor_102 (by decide) ?_
            refine G.drop 5 ?_
            refine G.drop 6 ?_
            refine ih (i + 1) _ _ (by omega) ?_ ?_
            · rw [partF_s, ← hq]
              first
                | (rw [if_pos (by omega)]; done)
                | (rw [if_neg (by omega)]; done)
            · first
                | exact ht
                | exact Or.inr ⟨by omega, by rw [g0]; rfl, by omega, by omega⟩
          · exact absurd hc72 (by decide)
        · subst hn25
          obtain ⟨hh25, hl25⟩ : hasN r i = i25 ∧ i25 < nS r := by
            unfold hasN
            omega
          subst hh25
          obtain ⟨g0, -, -, -, -, -, -, -, -⟩ := hM.2.1 (hasN r i) (by omega)
          obtain ⟨u0, -, -, -, -, -, -, -⟩ := hV.2.1 (hasN r i) (by omega)
          refine G.astore (ls' := [_, _, _, _, _, _, _]) X 30 dX4_giverFor_28 rfl (by decide) rfl ?_
          refine G.aload X 32 dX4_giverFor_30 rfl rfl ?_
          refine G.ifnull X 35 dX4_giverFor_32 rfl ?_
          refine G.aload X 37 dX4_giverFor_35 rfl rfl ?_
          refine G.getI X fl_X4_64 40 dX4_giverFor_37 rfl (ShSt.g (hS) (by omega)).1 ((ShSt.g (hS) (by omega)).2 0) ?_
          refine G.aload_n X 41 dX4_giverFor_40 rfl rfl ?_
          refine G.getR X fl_X4_26 44 dX4_giverFor_41 rfl (hS).1 (hS).2.2.2.1 ?_
          refine G.iload_n X 45 dX4_giverFor_44 rfl rfl ?_
          refine G.aald X 46 dX4_giverFor_45 rfl (ShSt.kc hS) (by decide) (ShSt.rc hS (by omega)) rfl (by omega) (by decide) ?_
          refine G.getI X fl_X4_104 49 dX4_giverFor_46 rfl (ShSt.c hS (by omega)).1 ((ShSt.c hS (by omega)).2 1) ?_
          refine G.icmp_lt X 67 52 dX4_giverFor_49 (by decide) rfl (by omega) (by omega) (fun hc49 => ?_) (fun hc49 => ?_)
          · refine G.iconst X 68 dX4_giverFor_67 rfl ?_
            refine G.istore (ls' := [_, _, _, _, _, _, _]) X 70 dX4_giverFor_68 rfl (by decide) rfl ?_
            refine G.iload X 72 dX4_giverFor_70 rfl rfl ?_
            refine G.if_eq X 99 75 dX4_giverFor_72 (by decide) rfl (by omega) (fun hc72 => ?_) (fun hc72 => ?_)
            · refine G.iinc (ls' := [_, _, _, _, _, _, _]) X 102 dX4_giverFor_99 rfl rfl (by decide) rfl ?_
              refine G.goto X 8 dX4_giverFor_102 (by decide) ?_
              refine G.drop 5 ?_
              refine G.drop 6 ?_
              refine ih (i + 1) _ _ (by omega) ?_ ?_
              · rw [partF_s, ← hq]
                first
                  | (rw [if_pos (by omega)]; done)
                  | (rw [if_neg (by omega)]; done)
              · first
                  | exact ht
                  | exact Or.inr ⟨by omega, by rw [g0]; rfl, by omega, by omega⟩
            · exact absurd hc72 (by decide)
          · refine G.aload_n X 53 dX4_giverFor_52 rfl rfl ?_
            refine G.iload X 55 dX4_giverFor_53 rfl rfl ?_
            refine G.vI1 (d := 0) X ml_X4_107 yv_X4_leastInYard 58 dX4_giverFor_55 rfl (c_X4_leastInYard l D Bs _ kd rf _ _ _ _ (hS) hV hM (by omega)) ⟨_, _, (hS).1, rfl, rfl⟩ (by decide) ⟨Nat.zero_le _, Nat.zero_le _⟩ (Nat.le_of_ble_eq_true rfl) (fun r55 M55 h55 => ?_)
            obtain ⟨hr55, hm55⟩ := h55
            subst hr55
            obtain rfl := hm55.symm
            refine G.bipush X 60 dX4_giverFor_58 rfl (by decide) ?_
            refine G.icmp_eq X 67 63 dX4_giverFor_60 (by decide) rfl (by omega) (by omega) (fun hc60 => ?_) (fun hc60 => ?_)
            · refine G.iconst X 68 dX4_giverFor_67 rfl ?_
              refine G.istore (ls' := [_, _, _, _, _, _, _]) X 70 dX4_giverFor_68 rfl (by decide) rfl ?_
              refine G.iload X 72 dX4_giverFor_70 rfl rfl ?_
              refine G.if_eq X 99 75 dX4_giverFor_72 (by decide) rfl (by omega) (fun hc72 => ?_) (fun hc72 => ?_)
              · refine G.iinc (ls' := [_, _, _, _, _, _, _]) X 102 dX4_giverFor_99 rfl rfl (by decide) rfl ?_
                refine G.goto X 8 dX4_giverFor_102 (by decide) ?_
                refine G.drop 5 ?_
                refine G.drop 6 ?_
                refine ih (i + 1) _ _ (by omega) ?_ ?_
                · rw [partF_s, ← hq]
                  first
                    | (rw [if_pos (by omega)]; done)
                    | (rw [if_neg (by omega)]; done)
                · first
                    | exact ht
                    | exact Or.inr ⟨by omega, by rw [g0]; rfl, by omega, by omega⟩
              · exact absurd hc72 (by decide)
            · refine G.iconst X 64 dX4_giverFor_63 rfl ?_
              refine G.goto X 68 dX4_giverFor_64 (by decide) ?_
              refine G.istore (ls' := [_, _, _, _, _, _, _]) X 70 dX4_giverFor_68 rfl (by decide) rfl ?_
              refine G.iload X 72 dX4_giverFor_70 rfl rfl ?_
              refine G.if_eq X 99 75 dX4_giverFor_72 (by decide) rfl (by omega) (fun hc72 => ?_) (fun hc72 => ?_)
              · exact absurd hc72 (by decide)
              · refine G.iload_n X 76 dX4_giverFor_75 rfl rfl ?_
                refine G.bipush X 78 dX4_giverFor_76 rfl (by decide) ?_
                refine G.icmp_eq X 90 81 dX4_giverFor_78 (by decide) rfl (by omega) (by omega) (fun hc78 => ?_) (fun hc78 => ?_)
                · refine G.iload X 92 dX4_giverFor_90 rfl rfl ?_
                  refine G.istore_n (ls' := [_, _, _, _, _, _, _]) X 93 dX4_giverFor_92 rfl (by decide) rfl ?_
                  refine G.aload X 95 dX4_giverFor_93 rfl rfl ?_
                  refine G.getI X fl_X4_64 98 dX4_giverFor_95 rfl (ShSt.g (hS) (by omega)).1 ((ShSt.g (hS) (by omega)).2 0) ?_
                  refine G.istore_n (ls' := [_, _, _, _, _, _, _]) X 99 dX4_giverFor_98 rfl (by decide) rfl ?_
                  refine G.iinc (ls' := [_, _, _, _, _, _, _]) X 102 dX4_giverFor_99 rfl rfl (by decide) rfl ?_
                  refine G.goto X 8 dX4_giverFor_102 (by decide) ?_
                  refine G.drop 5 ?_
                  refine G.drop 6 ?_
                  refine ih (i + 1) _ _ (by omega) ?_ ?_
                  · rw [partF_s, ← hq]
                    first
                      | (rw [if_pos (by omega)]; done)
                      | (rw [if_neg (by omega)]; done)
                  · first
                      | exact ht
                      | exact Or.inr ⟨by omega, by rw [g0]; rfl, by omega, by omega⟩
                · refine G.aload X 83 dX4_giverFor_81 rfl rfl ?_
                  refine G.getI X fl_X4_64 86 dX4_giverFor_83 rfl (ShSt.g (hS) (by omega)).1 ((ShSt.g (hS) (by omega)).2 0) ?_
                  refine G.iload_n X 87 dX4_giverFor_86 rfl rfl ?_
                  refine G.icmp_ge X 99 90 dX4_giverFor_87 (by decide) rfl (by omega) (by omega) (fun hc87 => ?_) (fun hc87 => ?_)
                  · refine G.iinc (ls' := [_, _, _, _, _, _, _]) X 102 dX4_giverFor_99 rfl rfl (by decide) rfl ?_
                    refine G.goto X 8 dX4_giverFor_102 (by decide) ?_
                    refine G.drop 5 ?_
                    refine G.drop 6 ?_
                    refine ih (i + 1) _ _ (by omega) ?_ ?_
                    · rw [partF_s, ← hq]
                      first
                        | (rw [if_pos (by omega)]; done)
                        | (rw [if_neg (by omega)]; done)
                    · first
                        | exact ht
                        | exact Or.inr ⟨by omega, by rw [g0]; rfl, by omega, by omega⟩
                  · refine G.iload X 92 dX4_giverFor_90 rfl rfl ?_
                    refine G.istore_n (ls' := [_, _, _, _, _, _, _]) X 93 dX4_giverFor_92 rfl (by decide) rfl ?_
                    refine G.aload X 95 dX4_giverFor_93 rfl rfl ?_
                    refine G.getI X fl_X4_64 98 dX4_giverFor_95 rfl (ShSt.g (hS) (by omega)).1 ((ShSt.g (hS) (by omega)).2 0) ?_
                    refine G.istore_n (ls' := [_, _, _, _, _, _, _]) X 99 dX4_giverFor_98 rfl (by decide) rfl ?_
                    refine G.iinc (ls' := [_, _, _, _, _, _, _]) X 102 dX4_giverFor_99 rfl rfl (by decide) rfl ?_
                    refine G.goto X 8 dX4_giverFor_102 (by decide) ?_
                    refine G.drop 5 ?_
                    refine G.drop 6 ?_
                    refine ih (i + 1) _ _ (by omega) ?_ ?_
                    · rw [partF_s, ← hq]
                      first
                        | (rw [if_pos (by omega)]; done)
                        | (rw [if_neg (by omega)]; done)
                    · first
                        | exact ht
                        | exact Or.inr ⟨by omega, by rw [g0]; rfl, by omega, by omega⟩
  refine G.bipush X 2 dX4_giverFor_0 rfl (by decide) ?_
  refine G.istore_n (ls' := [_, _, _, _, _, _, _]) X 3 dX4_giverFor_2 rfl (by decide) rfl ?_
  refine G.iconst X 4 dX4_giverFor_3 rfl ?_
  refine G.istore_n (ls' := [_, _, _, _, _, _, _]) X 5 dX4_giverFor_4 rfl (by decide) rfl ?_
  refine G.iconst X 6 dX4_giverFor_5 rfl ?_
  refine G.istore (ls' := [_, _, _, _, _, _, _]) X 8 dX4_giverFor_6 rfl (by decide) rfl ?_
  exact L8 (nC r) 0 (-5) 0 (by omega) rfl (by omega)
