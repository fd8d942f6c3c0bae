theorem darkR_alt1 {r : xR} {s : Nat} {c x : Int} (hx : x = r 11 + (if 1 < c then 1 else 0)) (hc : c ≠ 3) : fu (fu (fu (fu r (116 + 10 * s + 6) (fC r s 6 + 1)) (116 + 10 * s + 8) c) 9 (r 9 + 1)) 11 x = darkR r s c := by
  subst hx
  unfold darkR
  dsimp only
  rw [if_neg hc]
theorem darkR_alt3 {r : xR} {s : Nat} {c x v : Int} (hx : x = r 11 + (if 1 < c then 1 else 0)) (hc : c = 3) (hv : v = fS r (hasN r s) 7 + 1) : fu (fu (fu (fu (fu r (116 + 10 * s + 6) (fC r s 6 + 1)) (116 + 10 * s + 8) c) 9 (r 9 + 1)) 11 x) (16 + 10 * hasN r s + 7) v = darkR r s c := by
  subst hx hv
  unfold darkR
  dsimp only
  rw [if_pos hc]
set_option maxHeartbeats 1000000 in
set_option maxRecDepth 100000 in
theorem c_X6_goesOn (l : Launch) (D : xD) (Bs sz : Nat) (kd : xKd) (rf : xRf) (M : xM) (y : Nat) (hY : ShY kd rf y) (hW : Vr (M (y + 1))) (h0 : (M (y + 1)) 0 + 1 ≤ 999) : CtI l D Bs yX6_goesOn cX6_goesOn 5 (some .int) 3 [.ref y] sz kd rf M (fun q M' => q = hourR (M (y + 1)) 8 - (M (y + 1)) 8 ∧ M' = ms M (y + 1) (hourR (M (y + 1)))) := by
  refine Ctr.of (yv_X6_goesOn.1.2.2.2.2) (List.forall_mem_cons.mpr ⟨rfl, fun _ h => absurd h List.not_mem_nil⟩) (Nat.le_of_ble_eq_true rfl) [some (.ref y), none, none, none, none] rfl ?_
  intro p e s m args below meth c X hin
  have hV := hW.k
  obtain ⟨n6, n6b⟩ := hV.n6
  obtain ⟨n7, n7b⟩ := hV.n7
  obtain ⟨hPS, hPT⟩ := hW.pre h0
  obtain ⟨hv0, -, -, -, -, -⟩ := hV.1
  have L131 : ∀ (k : Nat) (i : Nat) (q : Int) (M1 : xM), i + k = nC (M (y + 1)) → q = upR (M (y + 1)) 8 - (M (y + 1)) 8 → M1 = ms M (y + 1) (passT (upR (M (y + 1))) i) → G p l e (rmd 3) s m args below meth c D Bs 5 0 0 (MQ below (xQ D Bs (pI sz kd rf (fun q M' => q = hourR (M (y + 1)) 8 - (M (y + 1)) 8 ∧ M' = ms M (y + 1) (hourR (M (y + 1)))))) args s 0 0 (fun q => Bs ≤ q)) sz kd rf (M1) 131 [some (.ref y), some (vi q), some (vi (i : Int)), none, none] [] := by
    intro k
    induction k with
    | zero =>
      intro i q M1 hik hq hM1
      have hr1 : M1 (y + 1) = passT (upR (M (y + 1))) i := by rw [hM1, ms_same]
      have hVi : Vk (M1 (y + 1)) := by rw [hr1]; exact hPT i (by omega)
      have e7 : M1 (y + 1) 7 = (M (y + 1)) 7 := by rw [hr1, passT_n _ _ _ (by decide), upR_k _ (by decide), (passS_n (M (y + 1)) (nC (M (y + 1)))).2.2.2.2.2.2.2]
      have e6 : M1 (y + 1) 6 = (M (y + 1)) 6 := by rw [hr1, passT_n _ _ _ (by decide), upR_k _ (by decide), (passS_n (M (y + 1)) (nC (M (y + 1)))).2.2.2.2.2.2.1]
      have e0 : M1 (y + 1) 0 = (M (y + 1)) 0 + 1 := by rw [hr1, passT_n _ _ _ (by decide), upR_0]
      have hC1 : nC (M1 (y + 1)) = nC (M (y + 1)) := nC_of e7
      obtain rfl : i = nC (M (y + 1)) := by omega
      refine G.iload_n X 132 dX6_goesOn_131 rfl rfl ?_
      refine G.aload_n X 133 dX6_goesOn_132 rfl rfl ?_
      refine G.getR X fl_X6_7 136 dX6_goesOn_133 rfl (hY).1 (ShY.r0 hY) ?_
      refine G.bipush X 138 dX6_goesOn_136 rfl (by decide) ?_
      refine G.iald X (i := 7) 139 dX6_goesOn_138 rfl ((ShY.a0 hY)).1 (((ShY.a0 hY)).2 _) rfl (by omega) (by decide) ?_
      refine G.icmp_ge X 176 142 dX6_goesOn_139 (by decide) rfl (by omega) (by omega) (fun hc139 => ?_) (fun hc139 => ?_)
      · refine G.iload_n X 177 dX6_goesOn_176 rfl rfl ?_
        refine G.iret X dX6_goesOn_177 ⟨Nat.le_refl _, Nat.le_refl _⟩ ⟨rfl, rfl, rfl, _, rfl, ?_⟩
        exact ⟨by rw [hq, hourR_k _ (by decide)], hM1⟩
      · exfalso; omega
    | succ k ih =>
      intro i q M1 hik hq hM1
      have hr1 : M1 (y + 1) = passT (upR (M (y + 1))) i := by rw [hM1, ms_same]
      have hVi : Vk (M1 (y + 1)) := by rw [hr1]; exact hPT i (by omega)
      have e7 : M1 (y + 1) 7 = (M (y + 1)) 7 := by rw [hr1, passT_n _ _ _ (by decide), upR_k _ (by decide), (passS_n (M (y + 1)) (nC (M (y + 1)))).2.2.2.2.2.2.2]
      have e6 : M1 (y + 1) 6 = (M (y + 1)) 6 := by rw [hr1, passT_n _ _ _ (by decide), upR_k _ (by decide), (passS_n (M (y + 1)) (nC (M (y + 1)))).2.2.2.2.2.2.1]
      have e0 : M1 (y + 1) 0 = (M (y + 1)) 0 + 1 := by rw [hr1, passT_n _ _ _ (by decide), upR_0]
      have hC1 : nC (M1 (y + 1)) = nC (M (y + 1)) := nC_of e7
      obtain ⟨-, -, -, w3, w4, -, -⟩ := hVi.2.2 (i) (by omega)
      refine G.iload_n X 132 dX6_goesOn_131 rfl rfl ?_
      refine G.aload_n X 133 dX6_goesOn_132 rfl rfl ?_
      refine G.getR X fl_X6_7 136 dX6_goesOn_133 rfl (hY).1 (ShY.r0 hY) ?_
      refine G.bipush X 138 dX6_goesOn_136 rfl (by decide) ?_
      refine G.iald X (i := 7) 139 dX6_goesOn_138 rfl ((ShY.a0 hY)).1 (((ShY.a0 hY)).2 _) rfl (by omega) (by decide) ?_
      refine G.icmp_ge X 176 142 dX6_goesOn_139 (by decide) rfl (by omega) (by omega) (fun hc139 => ?_) (fun hc139 => ?_)
      · exfalso; omega
      · refine G.aload_n X 143 dX6_goesOn_142 rfl rfl ?_
        refine G.iload_n X 144 dX6_goesOn_143 rfl rfl ?_
        refine G.iconst X 145 dX6_goesOn_144 rfl ?_
        refine G.vI2 (d := 0) X ml_X6_78 yv_X6_ofSite 148 dX6_goesOn_145 rfl (c_X6_ofSite l D Bs _ kd rf _ y (i) 3 hY (by omega) (by decide)) ⟨_, _, (hY).1, rfl, rfl⟩ (by decide) ⟨Nat.zero_le _, Nat.zero_le _⟩ (Nat.le_of_ble_eq_true rfl) (fun r145 M145 h145 => ?_)
        obtain ⟨hr145, hm145⟩ := h145
        subst hr145
        obtain rfl := hm145.symm
        refine G.aload_n X 149 dX6_goesOn_148 rfl rfl ?_
        refine G.getR X fl_X6_7 152 dX6_goesOn_149 rfl (hY).1 (ShY.r0 hY) ?_
        refine G.iconst X 153 dX6_goesOn_152 rfl ?_
        refine G.iald X (i := 0) 154 dX6_goesOn_153 rfl ((ShY.a0 hY)).1 (((ShY.a0 hY)).2 _) rfl (by omega) (by decide) ?_
        refine G.icmp_ne X 170 157 dX6_goesOn_154 (by decide) rfl (by omega) (by omega) (fun hc154 => ?_) (fun hc154 => ?_)
        · refine G.iinc (ls' := [_, _, _, _, _]) X 173 dX6_goesOn_170 rfl rfl (by decide) rfl ?_
          refine G.goto X 131 dX6_goesOn_173 (by decide) ?_
          refine ih (i + 1) q _ (by omega) hq ?_
          rw [passT_s, ← hr1]
          first
            | (rw [if_pos (by omega)]
               unfold relR
               rw [if_pos (by omega), h167, hM1, ms_ms]
               done)
            | (rw [if_pos (by omega)]
               unfold relR
               rw [if_neg (by omega), hr1]
               exact hM1)
            | (rw [if_neg (by omega), hr1]
               exact hM1)
        · refine G.aload_n X 158 dX6_goesOn_157 rfl rfl ?_
          refine G.iload_n X 159 dX6_goesOn_158 rfl rfl ?_
          refine G.vI1 (d := 1) X ml_X6_81 yv_X6_setAt 162 dX6_goesOn_159 rfl (c_X6_setAt l D Bs _ kd rf _ y (i) hY (by omega)) ⟨_, _, (hY).1, rfl, rfl⟩ (by decide) ⟨Nat.zero_le _, Nat.zero_le _⟩ (Nat.le_of_ble_eq_true rfl) (fun r159 M159 h159 => ?_)
          obtain ⟨hr159, hm159⟩ := h159
          subst hr159
          obtain rfl := hm159.symm
          refine G.if_lt X 170 165 dX6_goesOn_162 (by decide) rfl (by omega) (fun hc162 => ?_) (fun hc162 => ?_)
          · refine G.iinc (ls' := [_, _, _, _, _]) X 173 dX6_goesOn_170 rfl rfl (by decide) rfl ?_
            refine G.goto X 131 dX6_goesOn_173 (by decide) ?_
            refine ih (i + 1) q _ (by omega) hq ?_
            rw [passT_s, ← hr1]
            first
              | (rw [if_pos (by omega)]
                 unfold relR
                 rw [if_pos (by omega), h167, hM1, ms_ms]
                 done)
              | (rw [if_pos (by omega)]
                 unfold relR
                 rw [if_neg (by omega), hr1]
                 exact hM1)
              | (rw [if_neg (by omega), hr1]
                 exact hM1)
          · refine G.aload_n X 166 dX6_goesOn_165 rfl rfl ?_
            refine G.iload_n X 167 dX6_goesOn_166 rfl rfl ?_
            refine G.vV1 (d := 2) X ml_X6_97 yv_X6_goesBack 170 dX6_goesOn_167 rfl (c_X6_goesBack l D Bs _ kd rf _ y i hY hVi (by omega) (by omega)) ⟨_, _, (hY).1, rfl, rfl⟩ (by decide) ⟨Nat.zero_le _, Nat.zero_le _⟩ (Nat.le_of_ble_eq_true rfl) (fun M167 h167 => ?_)
            have h167b := h167
            refine G.iinc (ls' := [_, _, _, _, _]) X 173 dX6_goesOn_170 rfl rfl (by decide) rfl ?_
            refine G.goto X 131 dX6_goesOn_173 (by decide) ?_
            refine ih (i + 1) q _ (by omega) hq ?_
            rw [passT_s, ← hr1]
            first
              | (rw [if_pos (by omega)]
                 unfold relR
                 rw [if_pos (by omega), h167, hM1, ms_ms]
                 done)
              | (rw [if_pos (by omega)]
                 unfold relR
                 rw [if_neg (by omega), hr1]
                 exact hM1)
              | (rw [if_neg (by omega), hr1]
                 exact hM1)
  have L4 : ∀ (k : Nat) (i : Nat) (q : Int) (M1 : xM), i + k = nC (M (y + 1)) → q = passS (M (y + 1)) i 8 - (M (y + 1)) 8 → M1 = ms M (y + 1) (passS (M (y + 1)) i) → G p l e (rmd 3) s m args below meth c D Bs 5 0 0 (MQ below (xQ D Bs (pI sz kd rf (fun q M' => q = hourR (M (y + 1)) 8 - (M (y + 1)) 8 ∧ M' = ms M (y + 1) (hourR (M (y + 1)))))) args s 0 0 (fun q => Bs ≤ q)) sz kd rf (M1) 4 [some (.ref y), some (vi q), some (vi (i : Int)), none, none] [] := by
    intro k
    induction k with
    | zero =>
      intro i q M1 hik hq hM1
      have hr1 : M1 (y + 1) = passS (M (y + 1)) i := by rw [hM1, ms_same]
      have hms : ∀ F : xR, ms M1 (y + 1) F = ms M (y + 1) F := fun F => by rw [hM1, ms_ms]
      have hVi : Vk (M1 (y + 1)) := by rw [hr1]; exact hPS i (by omega)
      have hpn := passS_n (M (y + 1)) i
      have e7 : M1 (y + 1) 7 = (M (y + 1)) 7 := by rw [hr1]; exact hpn.2.2.2.2.2.2.2
      have e6 : M1 (y + 1) 6 = (M (y + 1)) 6 := by rw [hr1]; exact hpn.2.2.2.2.2.2.1
      have e0 : M1 (y + 1) 0 = (M (y + 1)) 0 := by rw [hr1]; exact hpn.2.2.1
      have hC1 : nC (M1 (y + 1)) = nC (M (y + 1)) := nC_of e7
      have hS1 : nS (M1 (y + 1)) = nS (M (y + 1)) := by rw [hr1]; exact hpn.1
      obtain rfl : i = nC (M (y + 1)) := by omega
      refine G.iload_n X 5 dX6_goesOn_4 rfl rfl ?_
      refine G.aload_n X 6 dX6_goesOn_5 rfl rfl ?_
      refine G.getR X fl_X6_7 9 dX6_goesOn_6 rfl (hY).1 (ShY.r0 hY) ?_
      refine G.bipush X 11 dX6_goesOn_9 rfl (by decide) ?_
      refine G.iald X (i := 7) 12 dX6_goesOn_11 rfl ((ShY.a0 hY)).1 (((ShY.a0 hY)).2 _) rfl (by omega) (by decide) ?_
      refine G.icmp_ge X 119 15 dX6_goesOn_12 (by decide) rfl (by omega) (by omega) (fun hc12 => ?_) (fun hc12 => ?_)
      · refine G.aload_n X 120 dX6_goesOn_119 rfl rfl ?_
        refine G.getR X fl_X6_7 123 dX6_goesOn_120 rfl (hY).1 (ShY.r0 hY) ?_
        refine G.iconst X 124 dX6_goesOn_123 rfl ?_
        refine G.dup2 X 125 dX6_goesOn_124 rfl rfl rfl ?_
        refine G.iald X (i := 0) 126 dX6_goesOn_125 rfl ((ShY.a0 hY)).1 (((ShY.a0 hY)).2 _) rfl (by omega) (by decide) ?_
        refine G.iconst X 127 dX6_goesOn_126 rfl ?_
        refine G.iadd X 128 dX6_goesOn_127 rfl ?_
        refine G.iast X (i := 0) 129 dX6_goesOn_128 rfl ((ShY.a0 hY)).1 (((ShY.a0 hY)).2 _) rfl (by omega) (by decide) ?_
        refine G.iconst X 130 dX6_goesOn_129 rfl ?_
        refine G.istore_n (ls' := [_, _, _, _, _]) X 131 dX6_goesOn_130 rfl (by decide) rfl ?_
        refine L131 (nC (M (y + 1))) 0 q _ (by omega) (by rw [upR_k _ (by decide)]; exact hq) ?_
        show mu M1 (y + 1) 0 (M1 (y + 1) 0 + 1) = ms M (y + 1) (upR (M (y + 1)))
        unfold mu upR
        rw [hr1, hM1, ms_ms]
      · exfalso; omega
    | succ k ih =>
      intro i q M1 hik hq hM1
      have hr1 : M1 (y + 1) = passS (M (y + 1)) i := by rw [hM1, ms_same]
      have hms : ∀ F : xR, ms M1 (y + 1) F = ms M (y + 1) F := fun F => by rw [hM1, ms_ms]
      have hVi : Vk (M1 (y + 1)) := by rw [hr1]; exact hPS i (by omega)
      have hpn := passS_n (M (y + 1)) i
      have e7 : M1 (y + 1) 7 = (M (y + 1)) 7 := by rw [hr1]; exact hpn.2.2.2.2.2.2.2
      have e6 : M1 (y + 1) 6 = (M (y + 1)) 6 := by rw [hr1]; exact hpn.2.2.2.2.2.2.1
      have e0 : M1 (y + 1) 0 = (M (y + 1)) 0 := by rw [hr1]; exact hpn.2.2.1
      have hC1 : nC (M1 (y + 1)) = nC (M (y + 1)) := nC_of e7
      have hS1 : nS (M1 (y + 1)) = nS (M (y + 1)) := by rw [hr1]; exact hpn.1
      obtain ⟨-, -, w2, w3, w4, -, -⟩ := hVi.2.2 (i) (by omega)
      have hcr := causeR_rng (M1 (y + 1)) i
      have e8 : M1 (y + 1) 8 = passS (M (y + 1)) i 8 := by rw [hr1]
      refine G.iload_n X 5 dX6_goesOn_4 rfl rfl ?_
      refine G.aload_n X 6 dX6_goesOn_5 rfl rfl ?_
      refine G.getR X fl_X6_7 9 dX6_goesOn_6 rfl (hY).1 (ShY.r0 hY) ?_
      refine G.bipush X 11 dX6_goesOn_9 rfl (by decide) ?_
      refine G.iald X (i := 7) 12 dX6_goesOn_11 rfl ((ShY.a0 hY)).1 (((ShY.a0 hY)).2 _) rfl (by omega) (by decide) ?_
      refine G.icmp_ge X 119 15 dX6_goesOn_12 (by decide) rfl (by omega) (by omega) (fun hc12 => ?_) (fun hc12 => ?_)
      · exfalso; omega
      · refine G.aload_n X 16 dX6_goesOn_15 rfl rfl ?_
        refine G.iload_n X 17 dX6_goesOn_16 rfl rfl ?_
        refine G.vI1 (d := 1) X ml_X6_101 yv_X6_isOpen 20 dX6_goesOn_17 rfl (c_X6_isOpen l D Bs _ kd rf _ y i hY hVi (by omega)) ⟨_, _, (hY).1, rfl, rfl⟩ (by decide) ⟨Nat.zero_le _, Nat.zero_le _⟩ (Nat.le_of_ble_eq_true rfl) (fun r17 M17 h17 => ?_)
        obtain ⟨hr17, hm17⟩ := h17
        subst hr17
        obtain rfl := hm17.symm
        refine G.ifb_ne X 26 23 dX6_goesOn_20 (by decide) rfl (fun hc20 => ?_) (fun hc20 => ?_)
        · refine G.aload_n X 27 dX6_goesOn_26 rfl rfl ?_
          refine G.iload_n X 28 dX6_goesOn_27 rfl rfl ?_
          refine G.vI1 (d := 1) X ml_X6_81 yv_X6_setAt 31 dX6_goesOn_28 rfl (c_X6_setAt l D Bs _ kd rf _ y (i) hY (by omega)) ⟨_, _, (hY).1, rfl, rfl⟩ (by decide) ⟨Nat.zero_le _, Nat.zero_le _⟩ (Nat.le_of_ble_eq_true rfl) (fun r28 M28 h28 => ?_)
          obtain ⟨hr28, hm28⟩ := h28
          obtain rfl := hm28.symm
          refine G.istore_n (ls' := [_, _, _, _, _]) X 32 dX6_goesOn_31 rfl (by decide) rfl ?_
          refine G.iload_n X 33 dX6_goesOn_32 rfl rfl ?_
          refine G.if_ge X 40 36 dX6_goesOn_33 (by decide) rfl (by omega) (fun hc33 => ?_) (fun hc33 => ?_)
          · have hh4 : 0 < fC (M1 (y + 1)) i 4 := by omega
            obtain ⟨hh, hhe⟩ := hasN_lt hVi (show i < nC (M1 (y + 1)) by omega) hh4
            obtain rfl : r28 = (hasN (M1 (y + 1)) i : Int) := by omega
            refine G.aload_n X 41 dX6_goesOn_40 rfl rfl ?_
            refine G.iload_n X 42 dX6_goesOn_41 rfl rfl ?_
            refine G.vI1 (d := 1) X ml_X6_125 yv_X6_against 45 dX6_goesOn_42 rfl (c_X6_against l D Bs _ kd rf _ y (hasN (M1 (y + 1)) i) hY hVi hh) ⟨_, _, (hY).1, rfl, rfl⟩ (by decide) ⟨Nat.zero_le _, Nat.zero_le _⟩ (Nat.le_of_ble_eq_true rfl) (fun r42 M42 h42 => ?_)
            obtain ⟨hr42, hm42⟩ := h42
            have hcz : causeR (M1 (y + 1)) i = r42 := by
              rw [hr42]
              unfold causeR
              exact if_neg (by omega)
            obtain rfl := hm42.symm
            refine G.istore (ls' := [_, _, _, _, _]) X 47 dX6_goesOn_45 rfl (by decide) rfl ?_
            refine G.iload X 49 dX6_goesOn_47 rfl rfl ?_
            refine G.if_ne X 63 52 dX6_goesOn_49 (by decide) rfl (by omega) (fun hc49 => ?_) (fun hc49 => ?_)
            · refine G.aload_n X 64 dX6_goesOn_63 rfl rfl ?_
              refine G.iload_n X 65 dX6_goesOn_64 rfl rfl ?_
              refine G.iload X 67 dX6_goesOn_65 rfl rfl ?_
              refine G.vV2 (d := 1) X ml_X6_131 yv_X6_isDark 70 dX6_goesOn_67 rfl (c_X6_isDark l D Bs _ kd rf _ y (i) _ hY (by omega)) ⟨_, _, (hY).1, rfl, rfl⟩ (by decide) ⟨Nat.zero_le _, Nat.zero_le _⟩ (Nat.le_of_ble_eq_true rfl) (fun M67 h67 => ?_)
              have h67b := h67
              refine G.aload_n X 71 dX6_goesOn_70 rfl rfl ?_
              refine G.getR X fl_X6_7 74 dX6_goesOn_71 rfl (hY).1 (ShY.r0 hY) ?_
              refine G.bipush X 76 dX6_goesOn_74 rfl (by decide) ?_
              refine G.dup2 X 77 dX6_goesOn_76 rfl rfl rfl ?_
              refine G.iald X (i := 11) 78 dX6_goesOn_77 rfl ((ShY.a0 hY)).1 (((ShY.a0 hY)).2 _) rfl (by omega) (by decide) ?_
              refine G.iload X 80 dX6_goesOn_78 rfl rfl ?_
              refine G.iconst X 81 dX6_goesOn_80 rfl ?_
              refine G.icmp_le X 88 84 dX6_goesOn_81 (by decide) rfl (by omega) (by omega) (fun hc81 => ?_) (fun hc81 => ?_)
              · refine G.iconst X 89 dX6_goesOn_88 rfl ?_
                refine G.iadd X 90 dX6_goesOn_89 rfl ?_
                refine G.iast X (i := 11) 91 dX6_goesOn_90 rfl ((ShY.a0 hY)).1 (((ShY.a0 hY)).2 _) rfl (by omega) (by decide) ?_
                refine G.iload X 93 dX6_goesOn_91 rfl rfl ?_
                refine G.iconst X 94 dX6_goesOn_93 rfl ?_
                refine G.icmp_ne X 113 97 dX6_goesOn_94 (by decide) rfl (by omega) (by omega) (fun hc94 => ?_) (fun hc94 => ?_)
                · refine G.iinc (ls' := [_, _, _, _, _]) X 116 dX6_goesOn_113 rfl rfl (by decide) rfl ?_
                  refine G.goto X 4 dX6_goesOn_116 (by decide) ?_
                  refine G.drop 3 ?_
                  refine G.drop 4 ?_
                  refine ih (i + 1) _ _ (by omega) ?_ ?_
                  · rw [passS_s, ← hr1]
                    first
                    | (rw [if_pos (openB_iff.mpr (by omega))]
                       unfold hrS
                       first
                       | (rw [if_pos (by omega), litR_0 (by decide), if_pos rfl]; omega)
                       | (rw [if_neg (by omega), darkR_0 (by decide), if_neg (by decide), if_neg (by decide)]; omega))
                    | (rw [if_neg (fun z => by have h1 := openB_iff.mp z; omega)]; omega)
                  · rw [passS_s, ← hr1]
                    first
                    | (rw [if_neg (fun z => by have h1 := openB_iff.mp z; omega), hr1]
                       exact hM1)
                    | (rw [if_pos (openB_iff.mpr (by omega))]
                       unfold hrS
                       rw [if_pos (by omega), h54, hM1, ms_ms]
                       done)
                    | (rw [if_pos (openB_iff.mpr (by omega))]
                       unfold hrS
                       rw [if_neg (by omega), hcz, h110, h67]
                       simp only [mu, ms_same, ms_ms]
                       rw [hms]
                       exact congrArg (ms M (y + 1)) (darkR_alt3 (by (first | rfl | (simp only [fS, fC, fu_at, if_true]; repeat (first | rw [if_neg (by omega)] | rw [if_pos (by omega)])))) (by omega) (by (first | rfl | (simp only [fS, fC, fu_at, if_true]; repeat (first | rw [if_neg (by omega)] | rw [if_pos (by omega)]))))))
                    | (rw [if_pos (openB_iff.mpr (by omega))]
                       unfold hrS
                       rw [if_neg (by omega), hcz, h67]
                       simp only [mu, ms_same, ms_ms]
                       rw [hms]
                       exact congrArg (ms M (y + 1)) (darkR_alt1 (by (first | rfl | (simp only [fS, fC, fu_at, if_true]; repeat (first | rw [if_neg (by omega)] | rw [if_pos (by omega)])))) (by omega)))
                · refine G.aload_n X 98 dX6_goesOn_97 rfl rfl ?_
                  refine G.iload_n X 99 dX6_goesOn_98 rfl rfl ?_
                  refine G.bipush X 101 dX6_goesOn_99 rfl (by decide) ?_
                  refine G.aload_n X 102 dX6_goesOn_101 rfl rfl ?_
                  refine G.iload_n X 103 dX6_goesOn_102 rfl rfl ?_
                  refine G.bipush X 105 dX6_goesOn_103 rfl (by decide) ?_
                  refine G.vI2 (d := 0) X ml_X6_48 yv_X6_ofSet 108 dX6_goesOn_105 rfl (c_X6_ofSet l D Bs _ kd rf _ y (hasN (M1 (y + 1)) i) 7 hY (by omega) (by decide)) ⟨_, _, (hY).1, rfl, rfl⟩ (by decide) ⟨Nat.zero_le _, Nat.zero_le _⟩ (Nat.le_of_ble_eq_true rfl) (fun r105 M105 h105 => ?_)
                  obtain ⟨hr105, hm105⟩ := h105
                  subst hr105
                  obtain rfl := hm105.symm
                  refine G.iconst X 109 dX6_goesOn_108 rfl ?_
                  refine G.iadd X 110 dX6_goesOn_109 rfl ?_
                  refine G.vV3 (d := 0) X ml_X6_44 yv_X6_toSet 113 dX6_goesOn_110 rfl (c_X6_toSet l D Bs _ kd rf _ y (hasN (M1 (y + 1)) i) 7 _ hY (by omega) (by decide)) ⟨_, _, (hY).1, rfl, rfl⟩ (by decide) ⟨Nat.zero_le _, Nat.zero_le _⟩ (Nat.le_of_ble_eq_true rfl) (fun M110 h110 => ?_)
                  have h110b := h110
                  refine G.iinc (ls' := [_, _, _, _, _]) X 116 dX6_goesOn_113 rfl rfl (by decide) rfl ?_
                  refine G.goto X 4 dX6_goesOn_116 (by decide) ?_
                  refine G.drop 3 ?_
                  refine G.drop 4 ?_
                  refine ih (i + 1) _ _ (by omega) ?_ ?_
                  · rw [passS_s, ← hr1]
                    first
                    | (rw [if_pos (openB_iff.mpr (by omega))]
                       unfold hrS
                       first
                       | (rw [if_pos (by omega), litR_0 (by decide), if_pos rfl]; omega)
                       | (rw [if_neg (by omega), darkR_0 (by decide), if_neg (by decide), if_neg (by decide)]; omega))
                    | (rw [if_neg (fun z => by have h1 := openB_iff.mp z; omega)]; omega)
                  · rw [passS_s, ← hr1]
                    first
                    | (rw [if_neg (fun z => by have h1 := openB_iff.mp z; omega), hr1]
                       exact hM1)
                    | (rw [if_pos (openB_iff.mpr (by omega))]
                       unfold hrS
                       rw [if_pos (by omega), h54, hM1, ms_ms]
                       done)
                    | (rw [if_pos (openB_iff.mpr (by omega))]
                       unfold hrS
                       rw [if_neg (by omega), hcz, h110, h67]
                       simp only [mu, ms_same, ms_ms]
                       rw [hms]
                       exact congrArg (ms M (y + 1)) (darkR_alt3 (by (first | rfl | (simp only [fS, fC, fu_at, if_true]; repeat (first | rw [if_neg (by omega)] | rw [if_pos (by omega)])))) (by omega) (by (first | rfl | (simp only [fS, fC, fu_at, if_true]; repeat (first | rw [if_neg (by omega)] | rw [if_pos (by omega)]))))))
                    | (rw [if_pos (openB_iff.mpr (by omega))]
                       unfold hrS
                       rw [if_neg (by omega), hcz, h67]
                       simp only [mu, ms_same, ms_ms]
                       rw [hms]
                       exact congrArg (ms M (y + 1)) (darkR_alt1 (by (first | rfl | (simp only [fS, fC, fu_at, if_true]; repeat (first | rw [if_neg (by omega)] | rw [if_pos (by omega)])))) (by omega)))
              · refine G.iconst X 85 dX6_goesOn_84 rfl ?_
                refine G.goto X 89 dX6_goesOn_85 (by decide) ?_
                refine G.iadd X 90 dX6_goesOn_89 rfl ?_
                refine G.iast X (i := 11) 91 dX6_goesOn_90 rfl ((ShY.a0 hY)).1 (((ShY.a0 hY)).2 _) rfl (by omega) (by decide) ?_
                refine G.iload X 93 dX6_goesOn_91 rfl rfl ?_
                refine G.iconst X 94 dX6_goesOn_93 rfl ?_
                refine G.icmp_ne X 113 97 dX6_goesOn_94 (by decide) rfl (by omega) (by omega) (fun hc94 => ?_) (fun hc94 => ?_)
                · refine G.iinc (ls' := [_, _, _, _, _]) X 116 dX6_goesOn_113 rfl rfl (by decide) rfl ?_
                  refine G.goto X 4 dX6_goesOn_116 (by decide) ?_
                  refine G.drop 3 ?_
                  refine G.drop 4 ?_
                  refine ih (i + 1) _ _ (by omega) ?_ ?_
                  · rw [passS_s, ← hr1]
                    first
                    | (rw [if_pos (openB_iff.mpr (by omega))]
                       unfold hrS
                       first
                       | (rw [if_pos (by omega), litR_0 (by decide), if_pos rfl]; omega)
                       | (rw [if_neg (by omega), darkR_0 (by decide), if_neg (by decide), if_neg (by decide)]; omega))
                    | (rw [if_neg (fun z => by have h1 := openB_iff.mp z; omega)]; omega)
                  · rw [passS_s, ← hr1]
                    first
                    | (rw [if_neg (fun z => by have h1 := openB_iff.mp z; omega), hr1]
                       exact hM1)
                    | (rw [if_pos (openB_iff.mpr (by omega))]
                       unfold hrS
                       rw [if_pos (by omega), h54, hM1, ms_ms]
                       done)
                    | (rw [if_pos (openB_iff.mpr (by omega))]
                       unfold hrS
                       rw [if_neg (by omega), hcz, h110, h67]
                       simp only [mu, ms_same, ms_ms]
                       rw [hms]
                       exact congrArg (ms M (y + 1)) (darkR_alt3 (by (first | rfl | (simp only [fS, fC, fu_at, if_true]; repeat (first | rw [if_neg (by omega)] | rw [if_pos (by omega)])))) (by omega) (by (first | rfl | (simp only [fS, fC, fu_at, if_true]; repeat (first | rw [if_neg (by omega)] | rw [if_pos (by omega)]))))))
                    | (rw [if_pos (openB_iff.mpr (by omega))]
                       unfold hrS
                       rw [if_neg (by omega), hcz, h67]
                       simp only [mu, ms_same, ms_ms]
                       rw [hms]
                       exact congrArg (ms M (y + 1)) (darkR_alt1 (by (first | rfl | (simp only [fS, fC, fu_at, if_true]; repeat (first | rw [if_neg (by omega)] | rw [if_pos (by omega)])))) (by omega)))
                · refine G.aload_n X 98 dX6_goesOn_97 rfl rfl ?_
                  refine G.iload_n X 99 dX6_goesOn_98 rfl rfl ?_
                  refine G.bipush X 101 dX6_goesOn_99 rfl (by decide) ?_
                  refine G.aload_n X 102 dX6_goesOn_101 rfl rfl ?_
                  refine G.iload_n X 103 dX6_goesOn_102 rfl rfl ?_
                  refine G.bipush X 105 dX6_goesOn_103 rfl (by decide) ?_
                  refine G.vI2 (d := 0) X ml_X6_48 yv_X6_ofSet 108 dX6_goesOn_105 rfl (c_X6_ofSet l D Bs _ kd rf _ y (hasN (M1 (y + 1)) i) 7 hY (by omega) (by decide)) ⟨_, _, (hY).1, rfl, rfl⟩ (by decide) ⟨Nat.zero_le _, Nat.zero_le _⟩ (Nat.le_of_ble_eq_true rfl) (fun r105 M105 h105 => ?_)
                  obtain ⟨hr105, hm105⟩ := h105
                  subst hr105
                  obtain rfl := hm105.symm
                  refine G.iconst X 109 dX6_goesOn_108 rfl ?_
                  refine G.iadd X 110 dX6_goesOn_109 rfl ?_
                  refine G.vV3 (d := 0) X ml_X6_44 yv_X6_toSet 113 dX6_goesOn_110 rfl (c_X6_toSet l D Bs _ kd rf _ y (hasN (M1 (y + 1)) i) 7 _ hY (by omega) (by decide)) ⟨_, _, (hY).1, rfl, rfl⟩ (by decide) ⟨Nat.zero_le _, Nat.zero_le _⟩ (Nat.le_of_ble_eq_true rfl) (fun M110 h110 => ?_)
                  have h110b := h110
                  refine G.iinc (ls' := [_, _, _, _, _]) X 116 dX6_goesOn_113 rfl rfl (by decide) rfl ?_
                  refine G.goto X 4 dX6_goesOn_116 (by decide) ?_
                  refine G.drop 3 ?_
                  refine G.drop 4 ?_
                  refine ih (i + 1) _ _ (by omega) ?_ ?_
                  · rw [passS_s, ← hr1]
                    first
                    | (rw [if_pos (openB_iff.mpr (by omega))]
                       unfold hrS
                       first
                       | (rw [if_pos (by omega), litR_0 (by decide), if_pos rfl]; omega)
                       | (rw [if_neg (by omega), darkR_0 (by decide), if_neg (by decide), if_neg (by decide)]; omega))
                    | (rw [if_neg (fun z => by have h1 := openB_iff.mp z; omega)]; omega)
                  · rw [passS_s, ← hr1]
                    first
                    | (rw [if_neg (fun z => by have h1 := openB_iff.mp z; omega), hr1]
                       exact hM1)
                    | (rw [if_pos (openB_iff.mpr (by omega))]
                       unfold hrS
                       rw [if_pos (by omega), h54, hM1, ms_ms]
                       done)
                    | (rw [if_pos (openB_iff.mpr (by omega))]
                       unfold hrS
                       rw [if_neg (by omega), hcz, h110, h67]
                       simp only [mu, ms_same, ms_ms]
                       rw [hms]
                       exact congrArg (ms M (y + 1)) (darkR_alt3 (by (first | rfl | (simp only [fS, fC, fu_at, if_true]; repeat (first | rw [if_neg (by omega)] | rw [if_pos (by omega)])))) (by omega) (by (first | rfl | (simp only [fS, fC, fu_at, if_true]; repeat (first | rw [if_neg (by omega)] | rw [if_pos (by omega)]))))))
                    | (rw [if_pos (openB_iff.mpr (by omega))]
                       unfold hrS
                       rw [if_neg (by omega), hcz, h67]
                       simp only [mu, ms_same, ms_ms]
                       rw [hms]
                       exact congrArg (ms M (y + 1)) (darkR_alt1 (by (first | rfl | (simp only [fS, fC, fu_at, if_true]; repeat (first | rw [if_neg (by omega)] | rw [if_pos (by omega)])))) (by omega)))
            · refine G.aload_n X 53 dX6_goesOn_52 rfl rfl ?_
              refine G.iload_n X 54 dX6_goesOn_53 rfl rfl ?_
              refine G.vV1 (d := 2) X ml_X6_128 yv_X6_isLit 57 dX6_goesOn_54 rfl (c_X6_isLit l D Bs _ kd rf _ y i hY hVi (by omega) hh4) ⟨_, _, (hY).1, rfl, rfl⟩ (by decide) ⟨Nat.zero_le _, Nat.zero_le _⟩ (Nat.le_of_ble_eq_true rfl) (fun M54 h54 => ?_)
              have h54b := h54
              refine G.iinc (ls' := [_, _, _, _, _]) X 60 dX6_goesOn_57 rfl rfl (by decide) rfl ?_
              refine G.goto X 113 dX6_goesOn_60 (by decide) ?_
              refine G.iinc (ls' := [_, _, _, _, _]) X 116 dX6_goesOn_113 rfl rfl (by decide) rfl ?_
              refine G.goto X 4 dX6_goesOn_116 (by decide) ?_
              refine G.drop 3 ?_
              refine G.drop 4 ?_
              refine ih (i + 1) _ _ (by omega) ?_ ?_
              · rw [passS_s, ← hr1]
                first
                | (rw [if_pos (openB_iff.mpr (by omega))]
                   unfold hrS
                   first
                   | (rw [if_pos (by omega), litR_0 (by decide), if_pos rfl]; omega)
                   | (rw [if_neg (by omega), darkR_0 (by decide), if_neg (by decide), if_neg (by decide)]; omega))
                | (rw [if_neg (fun z => by have h1 := openB_iff.mp z; omega)]; omega)
              · rw [passS_s, ← hr1]
                first
                | (rw [if_neg (fun z => by have h1 := openB_iff.mp z; omega), hr1]
                   exact hM1)
                | (rw [if_pos (openB_iff.mpr (by omega))]
                   unfold hrS
                   rw [if_pos (by omega), h54, hM1, ms_ms]
                   done)
                | (rw [if_pos (openB_iff.mpr (by omega))]
                   unfold hrS
                   rw [if_neg (by omega), hcz, h110, h67]
                   simp only [mu, ms_same, ms_ms]
                   rw [hms]
                   exact congrArg (ms M (y + 1)) (darkR_alt3 (by (first | rfl | (simp only [fS, fC, fu_at, if_true]; repeat (first | rw [if_neg (by omega)] | rw [if_pos (by omega)])))) (by omega) (by (first | rfl | (simp only [fS, fC, fu_at, if_true]; repeat (first | rw [if_neg (by omega)] | rw [if_pos (by omega)]))))))
                | (rw [if_pos (openB_iff.mpr (by omega))]
                   unfold hrS
                   rw [if_neg (by omega), hcz, h67]
                   simp only [mu, ms_same, ms_ms]
                   rw [hms]
                   exact congrArg (ms M (y + 1)) (darkR_alt1 (by (first | rfl | (simp only [fS, fC, fu_at, if_true]; repeat (first | rw [if_neg (by omega)] | rw [if_pos (by omega)])))) (by omega)))
          · have hcz : causeR (M1 (y + 1)) i = 1 := by unfold causeR; exact if_pos (by omega)
            refine G.iconst X 37 dX6_goesOn_36 rfl ?_
            refine G.goto X 45 dX6_goesOn_37 (by decide) ?_
            refine G.istore (ls' := [_, _, _, _, _]) X 47 dX6_goesOn_45 rfl (by decide) rfl ?_
            refine G.iload X 49 dX6_goesOn_47 rfl rfl ?_
            refine G.if_ne X 63 52 dX6_goesOn_49 (by decide) rfl (by omega) (fun hc49 => ?_) (fun hc49 => ?_)
            · refine G.aload_n X 64 dX6_goesOn_63 rfl rfl ?_
              refine G.iload_n X 65 dX6_goesOn_64 rfl rfl ?_
              refine G.iload X 67 dX6_goesOn_65 rfl rfl ?_
              refine G.vV2 (d := 1) X ml_X6_131 yv_X6_isDark 70 dX6_goesOn_67 rfl (c_X6_isDark l D Bs _ kd rf _ y (i) _ hY (by omega)) ⟨_, _, (hY).1, rfl, rfl⟩ (by decide) ⟨Nat.zero_le _, Nat.zero_le _⟩ (Nat.le_of_ble_eq_true rfl) (fun M67 h67 => ?_)
              have h67b := h67
              refine G.aload_n X 71 dX6_goesOn_70 rfl rfl ?_
              refine G.getR X fl_X6_7 74 dX6_goesOn_71 rfl (hY).1 (ShY.r0 hY) ?_
              refine G.bipush X 76 dX6_goesOn_74 rfl (by decide) ?_
              refine G.dup2 X 77 dX6_goesOn_76 rfl rfl rfl ?_
              refine G.iald X (i := 11) 78 dX6_goesOn_77 rfl ((ShY.a0 hY)).1 (((ShY.a0 hY)).2 _) rfl (by omega) (by decide) ?_
              refine G.iload X 80 dX6_goesOn_78 rfl rfl ?_
              refine G.iconst X 81 dX6_goesOn_80 rfl ?_
              refine G.icmp_le X 88 84 dX6_goesOn_81 (by decide) rfl (by omega) (by omega) (fun hc81 => ?_) (fun hc81 => ?_)
              · refine G.iconst X 89 dX6_goesOn_88 rfl ?_
                refine G.iadd X 90 dX6_goesOn_89 rfl ?_
                refine G.iast X (i := 11) 91 dX6_goesOn_90 rfl ((ShY.a0 hY)).1 (((ShY.a0 hY)).2 _) rfl (by omega) (by decide) ?_
                refine G.iload X 93 dX6_goesOn_91 rfl rfl ?_
                refine G.iconst X 94 dX6_goesOn_93 rfl ?_
                refine G.icmp_ne X 113 97 dX6_goesOn_94 (by decide) rfl (by omega) (by omega) (fun hc94 => ?_) (fun hc94 => ?_)
                · refine G.iinc (ls' := [_, _, _, _, _]) X 116 dX6_goesOn_113 rfl rfl (by decide) rfl ?_
                  refine G.goto X 4 dX6_goesOn_116 (by decide) ?_
                  refine G.drop 3 ?_
                  refine G.drop 4 ?_
                  refine ih (i + 1) _ _ (by omega) ?_ ?_
                  · rw [passS_s, ← hr1]
                    first
                    | (rw [if_pos (openB_iff.mpr (by omega))]
                       unfold hrS
                       first
                       | (rw [if_pos (by omega), litR_0 (by decide), if_pos rfl]; omega)
                       | (rw [if_neg (by omega), darkR_0 (by decide), if_neg (by decide), if_neg (by decide)]; omega))
                    | (rw [if_neg (fun z => by have h1 := openB_iff.mp z; omega)]; omega)
                  · rw [passS_s, ← hr1]
                    first
                    | (rw [if_neg (fun z => by have h1 := openB_iff.mp z; omega), hr1]
                       exact hM1)
                    | (rw [if_pos (openB_iff.mpr (by omega))]
                       unfold hrS
                       rw [if_pos (by omega), h54, hM1, ms_ms]
                       done)
                    | (rw [if_pos (openB_iff.mpr (by omega))]
                       unfold hrS
                       rw [if_neg (by omega), hcz, h110, h67]
                       simp only [mu, ms_same, ms_ms]
                       rw [hms]
                       exact congrArg (ms M (y + 1)) (darkR_alt3 (by (first | rfl | (simp only [fS, fC, fu_at, if_true]; repeat (first | rw [if_neg (by omega)] | rw [if_pos (by omega)])))) (by omega) (by (first | rfl | (simp only [fS, fC, fu_at, if_true]; repeat (first | rw [if_neg (by omega)] | rw [if_pos (by omega)]))))))
                    | (rw [if_pos (openB_iff.mpr (by omega))]
                       unfold hrS
                       rw [if_neg (by omega), hcz, h67]
                       simp only [mu, ms_same, ms_ms]
                       rw [hms]
                       exact congrArg (ms M (y + 1)) (darkR_alt1 (by (first | rfl | (simp only [fS, fC, fu_at, if_true]; repeat (first | rw [if_neg (by omega)] | rw [if_pos (by omega)])))) (by omega)))
                · exact absurd hc94 (by decide)
              · exact absurd hc81 (by decide)
            · exact absurd hc49 (by decide)
        · refine G.goto X 113 dX6_goesOn_23 (by decide) ?_
          refine G.iinc (ls' := [_, _, _, _, _]) X 116 dX6_goesOn_113 rfl rfl (by decide) rfl ?_
          refine G.goto X 4 dX6_goesOn_116 (by decide) ?_
          refine ih (i + 1) _ _ (by omega) ?_ ?_
          · rw [passS_s, ← hr1]
            first
            | (rw [if_pos (openB_iff.mpr (by omega))]
               unfold hrS
               first
               | (rw [if_pos (by omega), litR_0 (by decide), if_pos rfl]; omega)
               | (rw [if_neg (by omega), darkR_0 (by decide), if_neg (by decide), if_neg (by decide)]; omega))
            | (rw [if_neg (fun z => by have h1 := openB_iff.mp z; omega)]; omega)
          · rw [passS_s, ← hr1]
            first
            | (rw [if_neg (fun z => by have h1 := openB_iff.mp z; omega), hr1]
               exact hM1)
            | (rw [if_pos (openB_iff.mpr (by omega))]
               unfold hrS
               rw [if_pos (by omega), h54, hM1, ms_ms]
               done)
            | (rw [if_pos (openB_iff.mpr (by omega))]
               unfold hrS
               rw [if_neg (by omega), hcz, h110, h67]
               simp only [mu, ms_same, ms_ms]
               rw [hms]
               exact congrArg (ms M (y + 1)) (darkR_alt3 (by (first | rfl | (simp only [fS, fC, fu_at, if_true]; repeat (first | rw [if_neg (by omega)] | rw [if_pos (by omega)])))) (by omega) (by (first | rfl | (simp only [fS, fC, fu_at, if_true]; repeat (first | rw [if_neg (by omega)] | rw [if_pos (by omega)]))))))
            | (rw [if_pos (openB_iff.mpr (by omega))]
               unfold hrS
               rw [if_neg (by omega), hcz, h67]
               simp only [mu, ms_same, ms_ms]
               rw [hms]
               exact congrArg (ms M (y + 1)) (darkR_alt1 (by (first | rfl | (simp only [fS, fC, fu_at, if_true]; repeat (first | rw [if_neg (by omega)] | rw [if_pos (by omega)])))) (by omega)))
  refine G.iconst X 1 dX6_goesOn_0 rfl ?_
  refine G.istore_n (ls' := [_, _, _, _, _]) X 2 dX6_goesOn_1 rfl (by decide) rfl ?_
  refine G.iconst X 3 dX6_goesOn_2 rfl ?_
  refine G.istore_n (ls' := [_, _, _, _, _]) X 4 dX6_goesOn_3 rfl (by decide) rfl ?_
  exact L4 (nC (M (y + 1))) 0 0 M (by omega) (Int.sub_self _).symm ms_self.symm
