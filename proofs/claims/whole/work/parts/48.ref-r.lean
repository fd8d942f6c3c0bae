set_option maxHeartbeats 1000000 in
set_option maxRecDepth 100000 in
theorem c_X6_forecast (l : Launch) (D : xD) (Bs sz : Nat) (kd : xKd) (rf : xRf) (M : xM) (y : Nat) (h : List xR) (sn : Option xR) (t : List Int) (x z : Int) (hY : ShY kd rf y) (hW : Vr (M (y + 1))) (hM : MSt M y (M (y + 1)) h sn t) (rx : IR x) (rz : IR z) : CtI l D Bs yX6_forecast cX6_forecast 6 (some .int) 5 [.ref y, vi x, vi z] sz kd rf M (fun q M' => q = foreF x z (M (y + 1)) ∧ MSt M' y (M (y + 1)) h sn t ∧ Off M M' y 8) := by
  refine Ctr.of (yv_X6_forecast.1.2.2.2.2) (List.forall_mem_cons.mpr ⟨rfl, List.forall_mem_cons.mpr ⟨rfl, List.forall_mem_cons.mpr ⟨rfl, fun _ h => absurd h List.not_mem_nil⟩⟩⟩) (Nat.le_of_ble_eq_true rfl) [some (.ref y), some (vi x), some (vi z), none, none, none] rfl ?_
  intro p e s m args below meth c X hin
  have hV := hW.k
  obtain ⟨n6, n6b⟩ := hV.n6
  obtain ⟨n7, n7b⟩ := hV.n7
  obtain ⟨hv0, -, -, -, -, -⟩ := hV.1
  have L133 : ∀ (k : Nat) (i : Nat) (o : Int) (M1 : xM), i + k = 236 → (∀ a, a ≠ y + 1 → a ≠ y + 4 → M1 a = M a) → (∀ q, q < 236 → M1 (y + 4) q = (M (y + 1)) q) → (∀ q, q < i → M1 (y + 1) q = (M (y + 1)) q) → (∀ q, 236 ≤ q → M1 (y + 1) q = (M (y + 1)) q) → o = foreF x z (M (y + 1)) → G p l e (rmd 5) s m args below meth c D Bs 6 0 0 (MQ below (xQ D Bs (pI sz kd rf (fun q M' => q = foreF x z (M (y + 1)) ∧ MSt M' y (M (y + 1)) h sn t ∧ Off M M' y 8))) args s 0 0 (fun q => Bs ≤ q)) sz kd rf (M1) 133 [some (.ref y), none, none, none, some (vi o), some (vi (i : Int))] [] := by
    intro k
    induction k with
    | zero =>
      intro i o M1 hik hA hB hC hD ho
      obtain rfl : i = 236 := by omega
      refine G.iload X 135 dX6_forecast_133 rfl rfl ?_
      refine G.sipush X 138 dX6_forecast_135 rfl (by decide) ?_
      refine G.icmp_ge X 161 141 dX6_forecast_138 (by decide) rfl (by omega) (by omega) (fun hc138 => ?_) (fun hc138 => ?_)
      · refine G.iload X 163 dX6_forecast_161 rfl rfl ?_
        refine G.iret X dX6_forecast_163 ⟨Nat.le_refl _, Nat.le_refl _⟩ ⟨rfl, rfl, rfl, _, rfl, ?_⟩
        have e1 : M1 (y + 1) = M (y + 1) := funext (fun q => by
          by_cases hq : q < 236
          · exact hC q hq
          · exact hD q (by omega))
        have ey : M1 y = M y := hA y (by omega) (by omega)
        have e6 : M1 (y + 6) = M (y + 6) := hA _ (by omega) (by omega)
        refine ⟨ho, hM.off e1 (hA _ (by omega) (by omega)) (hA _ (by omega) (by omega)) (by rw [ey]) (by rw [ey]) ?_, fun a ha => hA a (by omega) (by omega)⟩
        unfold TxM
        rw [ey, e6]
        exact hM.2.2.2.2
      · exfalso; omega
    | succ k ih =>
      intro i o M1 hik hA hB hC hD ho
      refine G.iload X 135 dX6_forecast_133 rfl rfl ?_
      refine G.sipush X 138 dX6_forecast_135 rfl (by decide) ?_
      refine G.icmp_ge X 161 141 dX6_forecast_138 (by decide) rfl (by omega) (by omega) (fun hc138 => ?_) (fun hc138 => ?_)
      · exfalso; omega
      · refine G.aload_n X 142 dX6_forecast_141 rfl rfl ?_
        refine G.getR X fl_X6_7 145 dX6_forecast_142 rfl (hY).1 (ShY.r0 hY) ?_
        refine G.iload X 147 dX6_forecast_145 rfl rfl ?_
        refine G.aload_n X 148 dX6_forecast_147 rfl rfl ?_
        refine G.getR X fl_X6_19 151 dX6_forecast_148 rfl (hY).1 (ShY.r5 hY) ?_
        refine G.iload X 153 dX6_forecast_151 rfl rfl ?_
        refine G.iald X (i := (i)) 154 dX6_forecast_153 rfl ((ShY.a5 hY)).1 (((ShY.a5 hY)).2 _) rfl (by omega) (by decide) ?_
        refine G.iast X (i := (i)) 155 dX6_forecast_154 rfl ((ShY.a0 hY)).1 (((ShY.a0 hY)).2 _) rfl (by omega) (by decide) ?_
        refine G.iinc (ls' := [_, _, _, _, _, _]) X 158 dX6_forecast_155 rfl rfl (by decide) rfl ?_
        refine G.goto X 133 dX6_forecast_158 (by decide) ?_
        refine ih (i + 1) o _ (by omega) (fun a h1 h4 => (ms_ne h1).trans (hA a h1 h4)) (fun q hq => (mu_ne (Or.inl (by omega))).trans (hB q hq)) (fun q hq => ?_) (fun q hq => (mu_ne (Or.inr (by omega))).trans (hD q hq)) ho
        by_cases e : q = i
        · subst e
          rw [mu_same]
          exact hB q (by omega)
        · rw [mu_ne (Or.inr e)]
          exact hC q (by omega)
  have L41 : ∀ (k : Nat) (i : Nat) (M1 : xM), i + k = 236 → (1 ≤ x ∧ x ≤ 24) → (0 ≤ z ∧ z ≤ 3) → (M (y + 1)) 0 + x ≤ 999 → (∀ a, a ≠ y + 4 → M1 a = M a) → (∀ q, q < i → M1 (y + 4) q = (M (y + 1)) q) → G p l e (rmd 5) s m args below meth c D Bs 6 0 0 (MQ below (xQ D Bs (pI sz kd rf (fun q M' => q = foreF x z (M (y + 1)) ∧ MSt M' y (M (y + 1)) h sn t ∧ Off M M' y 8))) args s 0 0 (fun q => Bs ≤ q)) sz kd rf (M1) 41 [some (.ref y), some (vi x), some (vi z), some (vi (i : Int)), none, none] [] := by
    intro k
    induction k with
    | zero =>
      intro i M1 hik hx hz hxx hA hB
      have e1 : M1 (y + 1) = M (y + 1) := hA _ (by omega)
      obtain rfl : i = 236 := by omega
      refine G.iload_n X 42 dX6_forecast_41 rfl rfl ?_
      refine G.sipush X 45 dX6_forecast_42 rfl (by decide) ?_
      refine G.icmp_ge X 66 48 dX6_forecast_45 (by decide) rfl (by omega) (by omega) (fun hc45 => ?_) (fun hc45 => ?_)
      · obtain ⟨u, rfl⟩ : ∃ u : Nat, x = (u : Int) := ⟨x.toNat, by omega⟩
        have r125 : Int := 0
        have hd125 : r125 = r125 := rfl
        have hV4 : Vk (M1 (y + 4)) := hV.congr hB
        have hn4 : nC (M1 (y + 4)) = nC (M (y + 1)) := nC_of (hB 7 (by decide))
        refine G.aload_n X 67 dX6_forecast_66 rfl rfl ?_
        refine G.iload_n X 68 dX6_forecast_67 rfl rfl ?_
        refine G.vI1 (d := 4) X ml_X6_137 yv_X6_goesOnFor 71 dX6_forecast_68 rfl (c_X6_goesOnFor l D Bs _ kd rf _ y u hY (by rw [e1]; exact hW) (by rw [e1]; omega)) ⟨_, _, (hY).1, rfl, rfl⟩ (by decide) ⟨Nat.zero_le _, Nat.zero_le _⟩ (Nat.le_of_ble_eq_true rfl) (fun r68 M68 h68 => ?_)
        obtain ⟨hr68, hm68⟩ := h68
        rw [e1] at hr68 hm68
        subst hr68 hm68
        refine G.istore_n (ls' := [_, _, _, _, _, _]) X 72 dX6_forecast_71 rfl (by decide) rfl ?_
        refine G.iload_n X 73 dX6_forecast_72 rfl rfl ?_
        refine G.if_ne X 80 76 dX6_forecast_73 (by decide) rfl (by omega) (fun hc73 => ?_) (fun hc73 => ?_)
        · refine G.iload_n X 81 dX6_forecast_80 rfl rfl ?_
          refine G.iconst X 82 dX6_forecast_81 rfl ?_
          refine G.icmp_ne X 103 85 dX6_forecast_82 (by decide) rfl (by omega) (by omega) (fun hc82 => ?_) (fun hc82 => ?_)
          · refine G.iload_n X 104 dX6_forecast_103 rfl rfl ?_
            refine G.iconst X 105 dX6_forecast_104 rfl ?_
            refine G.icmp_ne X 124 108 dX6_forecast_105 (by decide) rfl (by omega) (by omega) (fun hc105 => ?_) (fun hc105 => ?_)
            · refine G.aload_n X 125 dX6_forecast_124 rfl rfl ?_
              refine G.vI0 (d := 1) X ml_X6_164 yv_X6_darkest 128 dX6_forecast_125 rfl (c_X6_darkest l D Bs _ kd rf _ y hY (by rw [ms_same]; exact (hW.hours u (by omega)).k) (by rw [ms_ne (by omega)]; exact hV4) (by rw [ms_same, ms_ne (by omega), (hoursR_n _ u).2.1, hn4])) ⟨_, _, (hY).1, rfl, rfl⟩ (by decide) ⟨Nat.zero_le _, Nat.zero_le _⟩ (Nat.le_of_ble_eq_true rfl) (fun r125 M125 h125 => ?_)
              obtain ⟨hr125, hm125⟩ := h125
              have hd125 : r125 = darkB (hoursR (M (y + 1)) u) (M (y + 1)) (nC (M (y + 1))) := by
                rw [hr125, ms_same, ms_ne (by omega), (hoursR_n _ u).2.1]
                exact darkB_congr _ (fun i hi => hB _ (by omega))
              clear hr125
              obtain rfl := hm125.symm
              refine G.istore (ls' := [_, _, _, _, _, _]) X 130 dX6_forecast_128 rfl (by decide) rfl ?_
              refine G.iconst X 131 dX6_forecast_130 rfl ?_
              refine G.istore (ls' := [_, _, _, _, _, _]) X 133 dX6_forecast_131 rfl (by decide) rfl ?_
              refine G.drop 1 ?_
              refine G.drop 2 ?_
              refine G.drop 3 ?_
              refine L133 236 0 _ _ (by omega) (fun a h1 h4 => (ms_ne h1).trans (hA a h4)) (fun q hq => (congrFun (ms_ne (by omega)) q).trans (hB q hq)) (fun q hq => absurd hq (Nat.not_lt_zero q)) (fun q hq => by rw [ms_same]; exact Tl.hours hW u (by omega) q hq) ?_
              unfold foreF
              rw [if_neg (by omega), if_neg (by omega)]
              simp only [Int.toNat_natCast]
              first
                | (rw [if_pos (by omega)]; done)
                | (rw [if_neg (by omega), if_pos (by omega), ms_same, ms_ne (by omega), hB 9 (by decide)]; done)
                | (rw [if_neg (by omega), if_neg (by omega), if_pos (by omega), ms_same, ms_ne (by omega), hB 4 (by decide)]; done)
                | (rw [if_neg (by omega), if_neg (by omega), if_neg (by omega)]; exact hd125)
            · refine G.aload_n X 109 dX6_forecast_108 rfl rfl ?_
              refine G.getR X fl_X6_7 112 dX6_forecast_109 rfl (hY).1 (ShY.r0 hY) ?_
              refine G.iconst X 113 dX6_forecast_112 rfl ?_
              refine G.iald X (i := 4) 114 dX6_forecast_113 rfl ((ShY.a0 hY)).1 (((ShY.a0 hY)).2 _) rfl (by omega) (by decide) ?_
              refine G.aload_n X 115 dX6_forecast_114 rfl rfl ?_
              refine G.getR X fl_X6_19 118 dX6_forecast_115 rfl (hY).1 (ShY.r5 hY) ?_
              refine G.iconst X 119 dX6_forecast_118 rfl ?_
              refine G.iald X (i := 4) 120 dX6_forecast_119 rfl ((ShY.a5 hY)).1 (((ShY.a5 hY)).2 _) rfl (by omega) (by decide) ?_
              refine G.isub X 121 dX6_forecast_120 rfl ?_
              refine G.goto X 128 dX6_forecast_121 (by decide) ?_
              refine G.istore (ls' := [_, _, _, _, _, _]) X 130 dX6_forecast_128 rfl (by decide) rfl ?_
              refine G.iconst X 131 dX6_forecast_130 rfl ?_
              refine G.istore (ls' := [_, _, _, _, _, _]) X 133 dX6_forecast_131 rfl (by decide) rfl ?_
              refine G.drop 1 ?_
              refine G.drop 2 ?_
              refine G.drop 3 ?_
              refine L133 236 0 _ _ (by omega) (fun a h1 h4 => (ms_ne h1).trans (hA a h4)) (fun q hq => (congrFun (ms_ne (by omega)) q).trans (hB q hq)) (fun q hq => absurd hq (Nat.not_lt_zero q)) (fun q hq => by rw [ms_same]; exact Tl.hours hW u (by omega) q hq) ?_
              unfold foreF
              rw [if_neg (by omega), if_neg (by omega)]
              simp only [Int.toNat_natCast]
              first
                | (rw [if_pos (by omega)]; done)
                | (rw [if_neg (by omega), if_pos (by omega), ms_same, ms_ne (by omega), hB 9 (by decide)]; done)
                | (rw [if_neg (by omega), if_neg (by omega), if_pos (by omega), ms_same, ms_ne (by omega), hB 4 (by decide)]; done)
                | (rw [if_neg (by omega), if_neg (by omega), if_neg (by omega)]; exact hd125)
          · refine G.aload_n X 86 dX6_forecast_85 rfl rfl ?_
            refine G.getR X fl_X6_7 89 dX6_forecast_86 rfl (hY).1 (ShY.r0 hY) ?_
            refine G.bipush X 91 dX6_forecast_89 rfl (by decide) ?_
            refine G.iald X (i := 9) 92 dX6_forecast_91 rfl ((ShY.a0 hY)).1 (((ShY.a0 hY)).2 _) rfl (by omega) (by decide) ?_
            refine G.aload_n X 93 dX6_forecast_92 rfl rfl ?_
            refine G.getR X fl_X6_19 96 dX6_forecast_93 rfl (hY).1 (ShY.r5 hY) ?_
            refine G.bipush X 98 dX6_forecast_96 rfl (by decide) ?_
            refine G.iald X (i := 9) 99 dX6_forecast_98 rfl ((ShY.a5 hY)).1 (((ShY.a5 hY)).2 _) rfl (by omega) (by decide) ?_
            refine G.isub X 100 dX6_forecast_99 rfl ?_
            refine G.goto X 128 dX6_forecast_100 (by decide) ?_
            refine G.istore (ls' := [_, _, _, _, _, _]) X 130 dX6_forecast_128 rfl (by decide) rfl ?_
            refine G.iconst X 131 dX6_forecast_130 rfl ?_
            refine G.istore (ls' := [_, _, _, _, _, _]) X 133 dX6_forecast_131 rfl (by decide) rfl ?_
            refine G.drop 1 ?_
            refine G.drop 2 ?_
            refine G.drop 3 ?_
            refine L133 236 0 _ _ (by omega) (fun a h1 h4 => (ms_ne h1).trans (hA a h4)) (fun q hq => (congrFun (ms_ne (by omega)) q).trans (hB q hq)) (fun q hq => absurd hq (Nat.not_lt_zero q)) (fun q hq => by rw [ms_same]; exact Tl.hours hW u (by omega) q hq) ?_
            unfold foreF
            rw [if_neg (by omega), if_neg (by omega)]
            simp only [Int.toNat_natCast]
            first
              | (rw [if_pos (by omega)]; done)
              | (rw [if_neg (by omega), if_pos (by omega), ms_same, ms_ne (by omega), hB 9 (by decide)]; done)
              | (rw [if_neg (by omega), if_neg (by omega), if_pos (by omega), ms_same, ms_ne (by omega), hB 4 (by decide)]; done)
              | (rw [if_neg (by omega), if_neg (by omega), if_neg (by omega)]; exact hd125)
        · refine G.iload_n X 77 dX6_forecast_76 rfl rfl ?_
          refine G.goto X 128 dX6_forecast_77 (by decide) ?_
          refine G.istore (ls' := [_, _, _, _, _, _]) X 130 dX6_forecast_128 rfl (by decide) rfl ?_
          refine G.iconst X 131 dX6_forecast_130 rfl ?_
          refine G.istore (ls' := [_, _, _, _, _, _]) X 133 dX6_forecast_131 rfl (by decide) rfl ?_
          refine G.drop 1 ?_
          refine G.drop 2 ?_
          refine G.drop 3 ?_
          refine L133 236 0 _ _ (by omega) (fun a h1 h4 => (ms_ne h1).trans (hA a h4)) (fun q hq => (congrFun (ms_ne (by omega)) q).trans (hB q hq)) (fun q hq => absurd hq (Nat.not_lt_zero q)) (fun q hq => by rw [ms_same]; exact Tl.hours hW u (by omega) q hq) ?_
          unfold foreF
          rw [if_neg (by omega), if_neg (by omega)]
          simp only [Int.toNat_natCast]
          first
            | (rw [if_pos (by omega)]; done)
            | (rw [if_neg (by omega), if_pos (by omega), ms_same, ms_ne (by omega), hB 9 (by decide)]; done)
            | (rw [if_neg (by omega), if_neg (by omega), if_pos (by omega), ms_same, ms_ne (by omega), hB 4 (by decide)]; done)
            | (rw [if_neg (by omega), if_neg (by omega), if_neg (by omega)]; exact hd125)
      · exfalso; omega
    | succ k ih =>
      intro i M1 hik hx hz hxx hA hB
      have e1 : M1 (y + 1) = M (y + 1) := hA _ (by omega)
      refine G.iload_n X 42 dX6_forecast_41 rfl rfl ?_
      refine G.sipush X 45 dX6_forecast_42 rfl (by decide) ?_
      refine G.icmp_ge X 66 48 dX6_forecast_45 (by decide) rfl (by omega) (by omega) (fun hc45 => ?_) (fun hc45 => ?_)
      · exfalso; omega
      · refine G.aload_n X 49 dX6_forecast_48 rfl rfl ?_
        refine G.getR X fl_X6_19 52 dX6_forecast_49 rfl (hY).1 (ShY.r5 hY) ?_
        refine G.iload_n X 53 dX6_forecast_52 rfl rfl ?_
        refine G.aload_n X 54 dX6_forecast_53 rfl rfl ?_
        refine G.getR X fl_X6_7 57 dX6_forecast_54 rfl (hY).1 (ShY.r0 hY) ?_
        refine G.iload_n X 58 dX6_forecast_57 rfl rfl ?_
        refine G.iald X (i := (i)) 59 dX6_forecast_58 rfl ((ShY.a0 hY)).1 (((ShY.a0 hY)).2 _) rfl (by omega) (by decide) ?_
        refine G.iast X (i := (i)) 60 dX6_forecast_59 rfl ((ShY.a5 hY)).1 (((ShY.a5 hY)).2 _) rfl (by omega) (by decide) ?_
        refine G.iinc (ls' := [_, _, _, _, _, _]) X 63 dX6_forecast_60 rfl rfl (by decide) rfl ?_
        refine G.goto X 41 dX6_forecast_63 (by decide) ?_
        refine ih (i + 1) _ (by omega) hx hz hxx (fun a h4 => (ms_ne h4).trans (hA a h4)) (fun q hq => ?_)
        by_cases e : q = i
        · subst e
          rw [mu_same, e1]
        · rw [mu_ne (Or.inr e)]
          exact hB q (by omega)
  refine G.iload_n X 1 dX6_forecast_0 rfl rfl ?_
  refine G.iconst X 2 dX6_forecast_1 rfl ?_
  refine G.bipush X 4 dX6_forecast_2 rfl (by decide) ?_
  refine G.sI3 (d := 0) X ml_X6_36 ys_X6_in 7 dX6_forecast_4 rfl (c_X6_in l D Bs _ kd rf _ _ _ _ (by omega) (by omega) (by omega)) (by decide) ⟨Nat.zero_le _, Nat.zero_le _⟩ (Nat.le_of_ble_eq_true rfl) (fun r4 M4 h4 => ?_)
  obtain ⟨hr4, hm4⟩ := h4
  subst hr4
  obtain rfl := hm4.symm
  refine G.ifb_eq X 19 10 dX6_forecast_7 (by decide) rfl (fun hc7 => ?_) (fun hc7 => ?_)
  · refine G.bipush X 21 dX6_forecast_19 rfl (by decide) ?_
    refine G.iret X dX6_forecast_21 ⟨Nat.le_refl _, Nat.le_refl _⟩ ⟨rfl, rfl, rfl, _, rfl, ?_⟩
    unfold foreF
    rw [if_pos (by omega)]
    exact ⟨rfl, hM, Off.rf⟩
  · refine G.iload_n X 11 dX6_forecast_10 rfl rfl ?_
    refine G.iconst X 12 dX6_forecast_11 rfl ?_
    refine G.iconst X 13 dX6_forecast_12 rfl ?_
    refine G.sI3 (d := 0) X ml_X6_36 ys_X6_in 16 dX6_forecast_13 rfl (c_X6_in l D Bs _ kd rf _ _ _ _ (by omega) (by omega) (by omega)) (by decide) ⟨Nat.zero_le _, Nat.zero_le _⟩ (Nat.le_of_ble_eq_true rfl) (fun r13 M13 h13 => ?_)
    obtain ⟨hr13, hm13⟩ := h13
    subst hr13
    obtain rfl := hm13.symm
    refine G.ifb_ne X 22 19 dX6_forecast_16 (by decide) rfl (fun hc16 => ?_) (fun hc16 => ?_)
    · refine G.aload_n X 23 dX6_forecast_22 rfl rfl ?_
      refine G.getR X fl_X6_7 26 dX6_forecast_23 rfl (hY).1 (ShY.r0 hY) ?_
      refine G.iconst X 27 dX6_forecast_26 rfl ?_
      refine G.iald X (i := 0) 28 dX6_forecast_27 rfl ((ShY.a0 hY)).1 (((ShY.a0 hY)).2 _) rfl (by omega) (by decide) ?_
      refine G.iload_n X 29 dX6_forecast_28 rfl rfl ?_
      refine G.iadd X 30 dX6_forecast_29 rfl ?_
      refine G.sipush X 33 dX6_forecast_30 rfl (by decide) ?_
      refine G.icmp_le X 39 36 dX6_forecast_33 (by decide) rfl (by omega) (by omega) (fun hc33 => ?_) (fun hc33 => ?_)
      · refine G.iconst X 40 dX6_forecast_39 rfl ?_
        refine G.istore_n (ls' := [_, _, _, _, _, _]) X 41 dX6_forecast_40 rfl (by decide) rfl ?_
        exact L41 236 0 M (by omega) (by omega) (by omega) (by omega) (fun a _ => rfl) (fun q hq => absurd hq (Nat.not_lt_zero q))
      · refine G.bipush X 38 dX6_forecast_36 rfl (by decide) ?_
        refine G.iret X dX6_forecast_38 ⟨Nat.le_refl _, Nat.le_refl _⟩ ⟨rfl, rfl, rfl, _, rfl, ?_⟩
        unfold foreF
        rw [if_neg (by omega), if_pos (by omega)]
        exact ⟨rfl, hM, Off.rf⟩
    · refine G.bipush X 21 dX6_forecast_19 rfl (by decide) ?_
      refine G.iret X dX6_forecast_21 ⟨Nat.le_refl _, Nat.le_refl _⟩ ⟨rfl, rfl, rfl, _, rfl, ?_⟩
      unfold foreF
      rw [if_pos (by omega)]
      exact ⟨rfl, hM, Off.rf⟩
