theorem weather_b {r : xR} {x : Int} (hx : ¬ (-30 ≤ x ∧ x ≤ 20)) : weatherF x r = (-2, none) := if_pos hx
theorem weather_n {r : xR} {x : Int} (hx : -30 ≤ x ∧ x ≤ 20) (hn : x = r 1) : weatherF x r = (-5, none) := by
  unfold weatherF
  rw [if_neg (by omega), if_pos hn]
theorem weather_s {r : xR} {x v : Int} (hx : -30 ≤ x ∧ x ≤ 20) (hn : x ≠ r 1) (hv : v = x - r 1 ∧ 0 ≤ v ∨ v = r 1 - x ∧ 0 < v) : weatherF x r = (v, some (fu r 1 x)) := by
  unfold weatherF
  rw [if_neg (by omega), if_neg hn]
  rcases hv with ⟨e, h0⟩ | ⟨e, h0⟩
  · rw [if_pos (by omega), e]
  · rw [if_neg (by omega), show -(x - r 1) = v by omega]
theorem price_b {r : xR} {x : Int} (hx : ¬ (1 ≤ x ∧ x ≤ 99)) : priceF x r = (-2, none) := if_pos hx
theorem price_n {r : xR} {x : Int} (hx : 1 ≤ x ∧ x ≤ 99) (hn : x = r 2) : priceF x r = (-5, none) := by
  unfold priceF
  rw [if_neg (by omega), if_pos hn]
theorem price_s {r : xR} {x : Int} (hx : 1 ≤ x ∧ x ≤ 99) (hn : ¬ x = r 2) : priceF x r = (r 2, some (fu r 2 x)) := by
  unfold priceF
  rw [if_neg (by omega), if_neg hn]
theorem addSet_b {r : xR} {x0 x1 x2 x3 : Int} (hx : ¬ ((1 ≤ x0 ∧ x0 ≤ 99) ∧ (10 ≤ x1 ∧ x1 ≤ 500) ∧ (1 ≤ x2 ∧ x2 ≤ 50) ∧ x2 ≤ x1 ∧ (-30 ≤ x3 ∧ x3 ≤ 10))) : addSetF x0 x1 x2 x3 r = (-2, none) := if_pos hx
theorem addSet_f {r : xR} {x0 x1 x2 x3 : Int} (hx : (1 ≤ x0 ∧ x0 ≤ 99) ∧ (10 ≤ x1 ∧ x1 ≤ 500) ∧ (1 ≤ x2 ∧ x2 ≤ 50) ∧ x2 ≤ x1 ∧ (-30 ≤ x3 ∧ x3 ≤ 10)) (hf : 10 ≤ r 6) : addSetF x0 x1 x2 x3 r = (-3, none) := by
  unfold addSetF
  rw [if_neg (fun g => g hx), if_pos hf]
theorem addSet_s {r : xR} {x0 x1 x2 x3 : Int} (hx : (1 ≤ x0 ∧ x0 ≤ 99) ∧ (10 ≤ x1 ∧ x1 ≤ 500) ∧ (1 ≤ x2 ∧ x2 ≤ 50) ∧ x2 ≤ x1 ∧ (-30 ≤ x3 ∧ x3 ≤ 10)) (hf : ¬ 10 ≤ r 6) : addSetF x0 x1 x2 x3 r = (r 6, some (addSetR r x0 x1 x2 x3)) := by
  unfold addSetF
  rw [if_neg (fun g => g hx), if_neg hf]
theorem addSite_b {r : xR} {x0 x1 x2 x3 : Int} (hx : ¬ ((1 ≤ x0 ∧ x0 ≤ 9) ∧ (1 ≤ x1 ∧ x1 ≤ 99) ∧ (0 ≤ x2 ∧ x2 ≤ 998 ∧ x2 < x3 ∧ r 0 < x3 ∧ x3 ≤ 999))) : addSiteF x0 x1 x2 x3 r = (-2, none) := if_pos hx
theorem addSite_f {r : xR} {x0 x1 x2 x3 : Int} (hx : (1 ≤ x0 ∧ x0 ≤ 9) ∧ (1 ≤ x1 ∧ x1 ≤ 99) ∧ (0 ≤ x2 ∧ x2 ≤ 998 ∧ x2 < x3 ∧ r 0 < x3 ∧ x3 ≤ 999)) (hf : 12 ≤ r 7) : addSiteF x0 x1 x2 x3 r = (-3, none) := by
  unfold addSiteF
  rw [if_neg (fun g => g hx), if_pos hf]
theorem addSite_s {r : xR} {x0 x1 x2 x3 : Int} (hx : (1 ≤ x0 ∧ x0 ≤ 9) ∧ (1 ≤ x1 ∧ x1 ≤ 99) ∧ (0 ≤ x2 ∧ x2 ≤ 998 ∧ x2 < x3 ∧ r 0 < x3 ∧ x3 ≤ 999)) (hf : ¬ 12 ≤ r 7) : addSiteF x0 x1 x2 x3 r = (r 7, some (addSiteR r x0 x1 x2 x3)) := by
  unfold addSiteF
  rw [if_neg (fun g => g hx), if_neg hf]
set_option maxHeartbeats 2000000 in
set_option maxRecDepth 100000 in
theorem c_L_others (l : Launch) (D : xD) (Bs sz : Nat) (kd : xKd) (rf : xRf) (M : xM) (a : Nat) (r : xR) (h : List xR) (sn : Option xR) (hO : Ob kd rf a M r h sn) (so g w : Int) (hso : 7 ≤ so ∧ so ≤ 12) (hg : IR g) (hw : IR w) : CtI l D Bs yL_others cL_others 8 (some .boolean) 7 [.ref a, vi so, vi g, vi w] sz kd rf M (fun q M' => q = 1 ∧ ∃ (r1 : xR) (h1 : List xR), Ob kd rf a M' r1 h1 sn ∧ Rl r h r1 h1) := by
  refine Ctr.of (ys_L_others.1.2.2.2.2) (List.forall_mem_cons.mpr ⟨rfl, List.forall_mem_cons.mpr ⟨rfl, List.forall_mem_cons.mpr ⟨rfl, List.forall_mem_cons.mpr ⟨rfl, fun _ h => absurd h List.not_mem_nil⟩⟩⟩⟩) (Nat.le_of_ble_eq_true rfl) [some (.ref a), some (vi so), some (vi g), some (vi w), none, none, none, none] rfl ?_
  intro p e s m args below meth c X hin
  obtain ⟨hX, hI, hC⟩ := id hO
  have hV := hI.1.1.1
  have hJ := hI.1.2
  obtain ⟨n6, n6b⟩ := hV.n6
  obtain ⟨n7, n7b⟩ := hV.n7
  have hz0 := hV.1
  rcases (by omega : so = 7 ∨ so = 8 ∨ (9 ≤ so ∧ so ≤ 10) ∨ (11 ≤ so ∧ so ≤ 12)) with e1 | e1 | e1 | e1
  · skip
    refine G.iload_n X 1 dL_others_0 rfl rfl ?_
    refine G.bipush X 3 dL_others_1 rfl (by decide) ?_
    refine G.icmp_ne X 100 6 dL_others_3 (by decide) rfl (by omega) (by omega) (fun hc3 => by exfalso; omega) (fun hc3 => ?_)
    refine G.aload_n X 7 dL_others_6 rfl rfl ?_
    refine G.iconst X 8 dL_others_7 rfl ?_
    refine GS.count X hO ml_L_13 11 dL_others_8 rfl (cnt_1) (by decide) (by decide) ⟨Nat.zero_le _, Nat.zero_le _⟩ (Nat.le_of_ble_eq_true rfl) (fun M hO => ?_)
    refine G.bipush X 13 dL_others_11 rfl (by decide) ?_
    refine G.isub X 14 dL_others_13 rfl ?_
    refine G.istore (ls' := [_, _, _, _, _, _, _, _]) X 16 dL_others_14 rfl (by decide) rfl ?_
    refine G.iload_n X 17 dL_others_16 rfl rfl ?_
    refine G.bipush X 19 dL_others_17 rfl (by decide) ?_
    refine GS.low X ml_L_52 22 dL_others_19 rfl (by omega) (by decide) ⟨Nat.zero_le _, Nat.zero_le _⟩ (Nat.le_of_ble_eq_true rfl) (fun j19 hj19 => ?_)
    refine G.bipush X 24 dL_others_22 rfl (by decide) ?_
    refine G.isub X 25 dL_others_24 rfl ?_
    refine G.istore (ls' := [_, _, _, _, _, _, _, _]) X 27 dL_others_25 rfl (by decide) rfl ?_
    rcases (by omega : (j19 : Int) - 30 = r 1 ∨ r 1 < (j19 : Int) - 30 ∨ (j19 : Int) - 30 < r 1) with hd | hd | hd
    · skip
      refine G.iload X 29 dL_others_27 rfl rfl ?_
      refine G.iload X 31 dL_others_29 rfl rfl ?_
      refine G.icmp_ge X 42 34 dL_others_31 (by decide) rfl (by omega) (by omega) (fun hc31 => ?_) (fun hc31 => by exfalso; omega)
      refine G.iload X 44 dL_others_42 rfl rfl ?_
      refine G.iload X 46 dL_others_44 rfl rfl ?_
      refine G.isub X 47 dL_others_46 rfl ?_
      refine G.istore (ls' := [_, _, _, _, _, _, _, _]) X 49 dL_others_47 rfl (by decide) rfl ?_
      refine G.aload_n X 50 dL_others_49 rfl rfl ?_
      refine G.iload X 52 dL_others_50 rfl rfl ?_
      refine GS.weatherN X hO ml_L_74 55 dL_others_52 rfl (weather_n (by omega) hd) (by omega) (by decide) ⟨Nat.zero_le _, Nat.zero_le _⟩ (Nat.le_of_ble_eq_true rfl) (fun M hO => ?_)
      refine G.iload X 57 dL_others_55 rfl rfl ?_
      refine G.if_ne X 65 60 dL_others_57 (by decide) rfl (by omega) (fun hc57 => by exfalso; omega) (fun hc57 => ?_)
      refine G.bipush X 62 dL_others_60 rfl (by decide) ?_
      refine G.goto X 67 dL_others_62 (by decide) ?_
      refine G.icmp_ne X 98 70 dL_others_67 (by decide) rfl (by omega) (by omega) (fun hc67 => by exact absurd hc67 (by decide)) (fun hc67 => ?_)
      refine G.aload_n X 71 dL_others_70 rfl rfl ?_
      refine G.iconst X 72 dL_others_71 rfl ?_
      refine GS.count X hO ml_L_13 75 dL_others_72 rfl (cnt_1) (by decide) (by decide) ⟨Nat.zero_le _, Nat.zero_le _⟩ (Nat.le_of_ble_eq_true rfl) (fun M hO => ?_)
      refine G.iload X 77 dL_others_75 rfl rfl ?_
      refine G.bipush X 79 dL_others_77 rfl (by decide) ?_
      refine G.iadd X 80 dL_others_79 rfl ?_
      refine G.neF X 83 dL_others_80 98 (by decide) rfl (by omega) ?_
      refine G.aload_n X 84 dL_others_83 rfl rfl ?_
      refine G.bipush X 86 dL_others_84 rfl (by decide) ?_
      refine GS.weatherN X hO ml_L_74 89 dL_others_86 rfl (weather_b (by omega)) (by decide) (by decide) ⟨Nat.zero_le _, Nat.zero_le _⟩ (Nat.le_of_ble_eq_true rfl) (fun M hO => ?_)
      refine G.bipush X 91 dL_others_89 rfl (by decide) ?_
      refine G.icmp_ne X 98 94 dL_others_91 (by decide) rfl (by omega) (by omega) (fun hc91 => by exact absurd hc91 (by decide)) (fun hc91 => ?_)
      refine G.iconst X 95 dL_others_94 rfl ?_
      refine G.goto X 99 dL_others_95 (by decide) ?_
      refine G.zret X dL_others_99 ⟨Nat.le_refl _, Nat.le_refl _⟩ (Or.inr rfl) ⟨rfl, rfl, rfl, _, rfl, ?_⟩
      exact ⟨rfl, r, h, hO, Or.inl ⟨rfl, rfl⟩⟩
    · skip
      refine G.iload X 29 dL_others_27 rfl rfl ?_
      refine G.iload X 31 dL_others_29 rfl rfl ?_
      refine G.icmp_ge X 42 34 dL_others_31 (by decide) rfl (by omega) (by omega) (fun hc31 => ?_) (fun hc31 => by exfalso; omega)
      refine G.iload X 44 dL_others_42 rfl rfl ?_
      refine G.iload X 46 dL_others_44 rfl rfl ?_
      refine G.isub X 47 dL_others_46 rfl ?_
      refine G.istore (ls' := [_, _, _, _, _, _, _, _]) X 49 dL_others_47 rfl (by decide) rfl ?_
      refine G.aload_n X 50 dL_others_49 rfl rfl ?_
      refine G.iload X 52 dL_others_50 rfl rfl ?_
      refine GS.weatherS X hO ml_L_74 55 dL_others_52 rfl (weather_s (v := (j19 : Int) - 30 - r 1) (by omega) (by omega) (by omega)) (hI.1.set0 (by omega)) (by omega) (by decide) ⟨Nat.zero_le _, Nat.zero_le _⟩ (Nat.le_of_ble_eq_true rfl) (fun M hO => ?_)
      refine G.iload X 57 dL_others_55 rfl rfl ?_
      refine G.if_ne X 65 60 dL_others_57 (by decide) rfl (by omega) (fun hc57 => ?_) (fun hc57 => by exfalso; omega)
      refine G.iload X 67 dL_others_65 rfl rfl ?_
      refine G.neF X 70 dL_others_67 98 (by decide) rfl (by omega) ?_
      refine G.aload_n X 71 dL_others_70 rfl rfl ?_
      refine G.iconst X 72 dL_others_71 rfl ?_
      refine GS.count X hO ml_L_13 75 dL_others_72 rfl (cnt_1) (by decide) (by decide) ⟨Nat.zero_le _, Nat.zero_le _⟩ (Nat.le_of_ble_eq_true rfl) (fun M hO => ?_)
      refine G.iload X 77 dL_others_75 rfl rfl ?_
      refine G.bipush X 79 dL_others_77 rfl (by decide) ?_
      refine G.iadd X 80 dL_others_79 rfl ?_
      refine G.neF X 83 dL_others_80 98 (by decide) rfl (by rw [fu_same]) ?_
      refine G.aload_n X 84 dL_others_83 rfl rfl ?_
      refine G.bipush X 86 dL_others_84 rfl (by decide) ?_
      refine GS.weatherN X hO ml_L_74 89 dL_others_86 rfl (weather_b (by omega)) (by decide) (by decide) ⟨Nat.zero_le _, Nat.zero_le _⟩ (Nat.le_of_ble_eq_true rfl) (fun M hO => ?_)
      refine G.bipush X 91 dL_others_89 rfl (by decide) ?_
      refine G.icmp_ne X 98 94 dL_others_91 (by decide) rfl (by omega) (by omega) (fun hc91 => by exact absurd hc91 (by decide)) (fun hc91 => ?_)
      refine G.iconst X 95 dL_others_94 rfl ?_
      refine G.goto X 99 dL_others_95 (by decide) ?_
      refine G.zret X dL_others_99 ⟨Nat.le_refl _, Nat.le_refl _⟩ (Or.inr rfl) ⟨rfl, rfl, rfl, _, rfl, ?_⟩
      exact ⟨rfl, _, _, hO, Or.inr rfl⟩
    · skip
      refine G.iload X 29 dL_others_27 rfl rfl ?_
      refine G.iload X 31 dL_others_29 rfl rfl ?_
      refine G.icmp_ge X 42 34 dL_others_31 (by decide) rfl (by omega) (by omega) (fun hc31 => by exfalso; omega) (fun hc31 => ?_)
      refine G.iload X 36 dL_others_34 rfl rfl ?_
      refine G.iload X 38 dL_others_36 rfl rfl ?_
      refine G.isub X 39 dL_others_38 rfl ?_
      refine G.goto X 47 dL_others_39 (by decide) ?_
      refine G.istore (ls' := [_, _, _, _, _, _, _, _]) X 49 dL_others_47 rfl (by decide) rfl ?_
      refine G.aload_n X 50 dL_others_49 rfl rfl ?_
      refine G.iload X 52 dL_others_50 rfl rfl ?_
      refine GS.weatherS X hO ml_L_74 55 dL_others_52 rfl (weather_s (v := r 1 - ((j19 : Int) - 30)) (by omega) (by omega) (by omega)) (hI.1.set0 (by omega)) (by omega) (by decide) ⟨Nat.zero_le _, Nat.zero_le _⟩ (Nat.le_of_ble_eq_true rfl) (fun M hO => ?_)
      refine G.iload X 57 dL_others_55 rfl rfl ?_
      refine G.if_ne X 65 60 dL_others_57 (by decide) rfl (by omega) (fun hc57 => ?_) (fun hc57 => by exfalso; omega)
      refine G.iload X 67 dL_others_65 rfl rfl ?_
      refine G.neF X 70 dL_others_67 98 (by decide) rfl (by omega) ?_
      refine G.aload_n X 71 dL_others_70 rfl rfl ?_
      refine G.iconst X 72 dL_others_71 rfl ?_
      refine GS.count X hO ml_L_13 75 dL_others_72 rfl (cnt_1) (by decide) (by decide) ⟨Nat.zero_le _, Nat.zero_le _⟩ (Nat.le_of_ble_eq_true rfl) (fun M hO => ?_)
      refine G.iload X 77 dL_others_75 rfl rfl ?_
      refine G.bipush X 79 dL_others_77 rfl (by decide) ?_
      refine G.iadd X 80 dL_others_79 rfl ?_
      refine G.neF X 83 dL_others_80 98 (by decide) rfl (by rw [fu_same]) ?_
      refine G.aload_n X 84 dL_others_83 rfl rfl ?_
      refine G.bipush X 86 dL_others_84 rfl (by decide) ?_
      refine GS.weatherN X hO ml_L_74 89 dL_others_86 rfl (weather_b (by omega)) (by decide) (by decide) ⟨Nat.zero_le _, Nat.zero_le _⟩ (Nat.le_of_ble_eq_true rfl) (fun M hO => ?_)
      refine G.bipush X 91 dL_others_89 rfl (by decide) ?_
      refine G.icmp_ne X 98 94 dL_others_91 (by decide) rfl (by omega) (by omega) (fun hc91 => by exact absurd hc91 (by decide)) (fun hc91 => ?_)
      refine G.iconst X 95 dL_others_94 rfl ?_
      refine G.goto X 99 dL_others_95 (by decide) ?_
      refine G.zret X dL_others_99 ⟨Nat.le_refl _, Nat.le_refl _⟩ (Or.inr rfl) ⟨rfl, rfl, rfl, _, rfl, ?_⟩
      exact ⟨rfl, _, _, hO, Or.inr rfl⟩
  · skip
    refine G.iload_n X 1 dL_others_0 rfl rfl ?_
    refine G.bipush X 3 dL_others_1 rfl (by decide) ?_
    refine G.icmp_ne X 100 6 dL_others_3 (by decide) rfl (by omega) (by omega) (fun hc3 => ?_) (fun hc3 => by exfalso; omega)
    refine G.iload_n X 101 dL_others_100 rfl rfl ?_
    refine G.bipush X 103 dL_others_101 rfl (by decide) ?_
    refine G.icmp_ne X 162 106 dL_others_103 (by decide) rfl (by omega) (by omega) (fun hc103 => by exfalso; omega) (fun hc103 => ?_)
    refine G.aload_n X 107 dL_others_106 rfl rfl ?_
    refine G.iconst X 108 dL_others_107 rfl ?_
    refine GS.count X hO ml_L_13 111 dL_others_108 rfl (cnt_2) (by decide) (by decide) ⟨Nat.zero_le _, Nat.zero_le _⟩ (Nat.le_of_ble_eq_true rfl) (fun M hO => ?_)
    refine G.istore (ls' := [_, _, _, _, _, _, _, _]) X 113 dL_others_111 rfl (by decide) rfl ?_
    refine G.iconst X 114 dL_others_113 rfl ?_
    refine G.iload_n X 115 dL_others_114 rfl rfl ?_
    refine G.bipush X 117 dL_others_115 rfl (by decide) ?_
    refine GS.low X ml_L_52 120 dL_others_117 rfl (by omega) (by decide) ⟨Nat.zero_le _, Nat.zero_le _⟩ (Nat.le_of_ble_eq_true rfl) (fun j117 hj117 => ?_)
    refine G.iadd X 121 dL_others_120 rfl ?_
    refine G.istore (ls' := [_, _, _, _, _, _, _, _]) X 123 dL_others_121 rfl (by decide) rfl ?_
    by_cases hd : 1 + (j117 : Int) = r 2
    · skip
      refine G.aload_n X 124 dL_others_123 rfl rfl ?_
      refine G.iload X 126 dL_others_124 rfl rfl ?_
      refine GS.setPriceN X hO ml_L_77 129 dL_others_126 rfl (price_n (by omega) hd) (by omega) (by decide) ⟨Nat.zero_le _, Nat.zero_le _⟩ (Nat.le_of_ble_eq_true rfl) (fun M hO => ?_)
      refine G.iload X 131 dL_others_129 rfl rfl ?_
      refine G.iload X 133 dL_others_131 rfl rfl ?_
      refine G.icmp_ne X 141 136 dL_others_133 (by decide) rfl (by omega) (by omega) (fun hc133 => by exfalso; omega) (fun hc133 => ?_)
      refine G.bipush X 138 dL_others_136 rfl (by decide) ?_
      refine G.goto X 143 dL_others_138 (by decide) ?_
      refine G.icmp_ne X 160 146 dL_others_143 (by decide) rfl (by omega) (by omega) (fun hc143 => by exact absurd hc143 (by decide)) (fun hc143 => ?_)
      refine G.aload_n X 147 dL_others_146 rfl rfl ?_
      refine G.iconst X 148 dL_others_147 rfl ?_
      refine GS.setPriceN X hO ml_L_77 151 dL_others_148 rfl (price_b (by omega)) (by decide) (by decide) ⟨Nat.zero_le _, Nat.zero_le _⟩ (Nat.le_of_ble_eq_true rfl) (fun M hO => ?_)
      refine G.bipush X 153 dL_others_151 rfl (by decide) ?_
      refine G.icmp_ne X 160 156 dL_others_153 (by decide) rfl (by omega) (by omega) (fun hc153 => by exact absurd hc153 (by decide)) (fun hc153 => ?_)
      refine G.iconst X 157 dL_others_156 rfl ?_
      refine G.goto X 161 dL_others_157 (by decide) ?_
      refine G.zret X dL_others_161 ⟨Nat.le_refl _, Nat.le_refl _⟩ (Or.inr rfl) ⟨rfl, rfl, rfl, _, rfl, ?_⟩
      exact ⟨rfl, r, h, hO, Or.inl ⟨rfl, rfl⟩⟩
    · skip
      refine G.aload_n X 124 dL_others_123 rfl rfl ?_
      refine G.iload X 126 dL_others_124 rfl rfl ?_
      refine GS.setPriceS X hO ml_L_77 129 dL_others_126 rfl (price_s (by omega) hd) (hI.1.set0 (by omega)) (by omega) (by decide) ⟨Nat.zero_le _, Nat.zero_le _⟩ (Nat.le_of_ble_eq_true rfl) (fun M hO => ?_)
      refine G.iload X 131 dL_others_129 rfl rfl ?_
      refine G.iload X 133 dL_others_131 rfl rfl ?_
      refine G.icmp_ne X 141 136 dL_others_133 (by decide) rfl (by omega) (by omega) (fun hc133 => ?_) (fun hc133 => by exfalso; omega)
      refine G.iload X 143 dL_others_141 rfl rfl ?_
      refine G.neF X 146 dL_others_143 160 (by decide) rfl (rfl) ?_
      refine G.aload_n X 147 dL_others_146 rfl rfl ?_
      refine G.iconst X 148 dL_others_147 rfl ?_
      refine GS.setPriceN X hO ml_L_77 151 dL_others_148 rfl (price_b (by omega)) (by decide) (by decide) ⟨Nat.zero_le _, Nat.zero_le _⟩ (Nat.le_of_ble_eq_true rfl) (fun M hO => ?_)
      refine G.bipush X 153 dL_others_151 rfl (by decide) ?_
      refine G.icmp_ne X 160 156 dL_others_153 (by decide) rfl (by omega) (by omega) (fun hc153 => by exact absurd hc153 (by decide)) (fun hc153 => ?_)
      refine G.iconst X 157 dL_others_156 rfl ?_
      refine G.goto X 161 dL_others_157 (by decide) ?_
      refine G.zret X dL_others_161 ⟨Nat.le_refl _, Nat.le_refl _⟩ (Or.inr rfl) ⟨rfl, rfl, rfl, _, rfl, ?_⟩
      exact ⟨rfl, _, _, hO, Or.inr rfl⟩
  · skip
    refine G.iload_n X 1 dL_others_0 rfl rfl ?_
    refine G.bipush X 3 dL_others_1 rfl (by decide) ?_
    refine G.icmp_ne X 100 6 dL_others_3 (by decide) rfl (by omega) (by omega) (fun hc3 => ?_) (fun hc3 => by exfalso; omega)
    refine G.iload_n X 101 dL_others_100 rfl rfl ?_
    refine G.bipush X 103 dL_others_101 rfl (by decide) ?_
    refine G.icmp_ne X 162 106 dL_others_103 (by decide) rfl (by omega) (by omega) (fun hc103 => ?_) (fun hc103 => by exfalso; omega)
    refine G.iload_n X 163 dL_others_162 rfl rfl ?_
    refine G.bipush X 165 dL_others_163 rfl (by decide) ?_
    refine G.icmp_ge X 269 168 dL_others_165 (by decide) rfl (by omega) (by omega) (fun hc165 => by exfalso; omega) (fun hc165 => ?_)
    refine G.aload_n X 169 dL_others_168 rfl rfl ?_
    refine G.bipush X 171 dL_others_169 rfl (by decide) ?_
    refine GS.count X hO ml_L_13 174 dL_others_171 rfl (cnt_7) (by decide) (by decide) ⟨Nat.zero_le _, Nat.zero_le _⟩ (Nat.le_of_ble_eq_true rfl) (fun M hO => ?_)
    refine G.istore (ls' := [_, _, _, _, _, _, _, _]) X 176 dL_others_174 rfl (by decide) rfl ?_
    refine G.iconst X 177 dL_others_176 rfl ?_
    refine G.iload_n X 178 dL_others_177 rfl rfl ?_
    refine G.iconst X 179 dL_others_178 rfl ?_
    refine G.ishrX X 180 dL_others_179 rfl (fun y179 hy179 => ?_)
    refine G.bipush X 182 dL_others_180 rfl (by decide) ?_
    refine GS.low X ml_L_52 185 dL_others_182 rfl (by omega) (by decide) ⟨Nat.zero_le _, Nat.zero_le _⟩ (Nat.le_of_ble_eq_true rfl) (fun j182 hj182 => ?_)
    refine G.iadd X 186 dL_others_185 rfl ?_
    refine G.istore (ls' := [_, _, _, _, _, _, _, _]) X 188 dL_others_186 rfl (by decide) rfl ?_
    refine G.iload X 190 dL_others_188 rfl rfl ?_
    refine G.iload_n X 191 dL_others_190 rfl rfl ?_
    refine G.bipush X 193 dL_others_191 rfl (by decide) ?_
    refine G.ishrX X 194 dL_others_193 rfl (fun y193 hy193 => ?_)
    refine G.bipush X 196 dL_others_194 rfl (by decide) ?_
    refine GS.low X ml_L_52 199 dL_others_196 rfl (by omega) (by decide) ⟨Nat.zero_le _, Nat.zero_le _⟩ (Nat.le_of_ble_eq_true rfl) (fun j196 hj196 => ?_)
    refine G.iadd X 200 dL_others_199 rfl ?_
    refine G.bipush X 202 dL_others_200 rfl (by decide) ?_
    refine G.iadd X 203 dL_others_202 rfl ?_
    refine G.istore (ls' := [_, _, _, _, _, _, _, _]) X 205 dL_others_203 rfl (by decide) rfl ?_
    by_cases hf : 10 ≤ r 6
    · skip
      refine G.aload_n X 206 dL_others_205 rfl rfl ?_
      refine G.bipush X 208 dL_others_206 rfl (by decide) ?_
      refine G.iload_n X 209 dL_others_208 rfl rfl ?_
      refine G.bipush X 211 dL_others_209 rfl (by decide) ?_
      refine GS.low X ml_L_52 214 dL_others_211 rfl (by omega) (by decide) ⟨Nat.zero_le _, Nat.zero_le _⟩ (Nat.le_of_ble_eq_true rfl) (fun j211 hj211 => ?_)
      refine G.iadd X 215 dL_others_214 rfl ?_
      refine G.iload X 217 dL_others_215 rfl rfl ?_
      refine G.iload X 219 dL_others_217 rfl rfl ?_
      refine G.iload_n X 220 dL_others_219 rfl rfl ?_
      refine G.bipush X 222 dL_others_220 rfl (by decide) ?_
      refine GS.low X ml_L_52 225 dL_others_222 rfl (by omega) (by decide) ⟨Nat.zero_le _, Nat.zero_le _⟩ (Nat.le_of_ble_eq_true rfl) (fun j222 hj222 => ?_)
      refine G.bipush X 227 dL_others_225 rfl (by decide) ?_
      refine G.isub X 228 dL_others_227 rfl ?_
      refine GS.addSetN X hO ml_L_80 231 dL_others_228 rfl (addSet_f (by omega) hf) (by omega) (by omega) (by omega) (by omega) (by decide) ⟨Nat.zero_le _, Nat.zero_le _⟩ (Nat.le_of_ble_eq_true rfl) (fun M hO => ?_)
      refine G.iload X 233 dL_others_231 rfl rfl ?_
      refine G.bipush X 235 dL_others_233 rfl (by decide) ?_
      refine G.icmp_ne X 243 238 dL_others_235 (by decide) rfl (by omega) (by omega) (fun hc235 => by exfalso; omega) (fun hc235 => ?_)
      refine G.bipush X 240 dL_others_238 rfl (by decide) ?_
      refine G.goto X 245 dL_others_240 (by decide) ?_
      refine G.icmp_ne X 267 248 dL_others_245 (by decide) rfl (by omega) (by omega) (fun hc245 => by exact absurd hc245 (by decide)) (fun hc245 => ?_)
      refine G.aload_n X 249 dL_others_248 rfl rfl ?_
      refine G.iconst X 250 dL_others_249 rfl ?_
      refine G.bipush X 252 dL_others_250 rfl (by decide) ?_
      refine G.bipush X 254 dL_others_252 rfl (by decide) ?_
      refine G.iconst X 255 dL_others_254 rfl ?_
      refine GS.addSetN X hO ml_L_80 258 dL_others_255 rfl (addSet_b (by omega)) (by decide) (by decide) (by decide) (by decide) (by decide) ⟨Nat.zero_le _, Nat.zero_le _⟩ (Nat.le_of_ble_eq_true rfl) (fun M hO => ?_)
      refine G.bipush X 260 dL_others_258 rfl (by decide) ?_
      refine G.icmp_ne X 267 263 dL_others_260 (by decide) rfl (by omega) (by omega) (fun hc260 => by exact absurd hc260 (by decide)) (fun hc260 => ?_)
      refine G.iconst X 264 dL_others_263 rfl ?_
      refine G.goto X 268 dL_others_264 (by decide) ?_
      refine G.zret X dL_others_268 ⟨Nat.le_refl _, Nat.le_refl _⟩ (Or.inr rfl) ⟨rfl, rfl, rfl, _, rfl, ?_⟩
      exact ⟨rfl, r, h, hO, Or.inl ⟨rfl, rfl⟩⟩
    · skip
      refine G.aload_n X 206 dL_others_205 rfl rfl ?_
      refine G.bipush X 208 dL_others_206 rfl (by decide) ?_
      refine G.iload_n X 209 dL_others_208 rfl rfl ?_
      refine G.bipush X 211 dL_others_209 rfl (by decide) ?_
      refine GS.low X ml_L_52 214 dL_others_211 rfl (by omega) (by decide) ⟨Nat.zero_le _, Nat.zero_le _⟩ (Nat.le_of_ble_eq_true rfl) (fun j211 hj211 => ?_)
      refine G.iadd X 215 dL_others_214 rfl ?_
      refine G.iload X 217 dL_others_215 rfl rfl ?_
      refine G.iload X 219 dL_others_217 rfl rfl ?_
      refine G.iload_n X 220 dL_others_219 rfl rfl ?_
      refine G.bipush X 222 dL_others_220 rfl (by decide) ?_
      refine GS.low X ml_L_52 225 dL_others_222 rfl (by omega) (by decide) ⟨Nat.zero_le _, Nat.zero_le _⟩ (Nat.le_of_ble_eq_true rfl) (fun j222 hj222 => ?_)
      refine G.bipush X 227 dL_others_225 rfl (by decide) ?_
      refine G.isub X 228 dL_others_227 rfl ?_
      refine GS.addSetS X hO ml_L_80 231 dL_others_228 rfl (addSet_s (by omega) hf) (hI.1.addSet (by omega) (by omega) (by omega) (by omega) (by omega)) (by omega) (by omega) (by omega) (by omega) (by decide) ⟨Nat.zero_le _, Nat.zero_le _⟩ (Nat.le_of_ble_eq_true rfl) (fun M hO => ?_)
      refine G.iload X 233 dL_others_231 rfl rfl ?_
      refine G.bipush X 235 dL_others_233 rfl (by decide) ?_
      refine G.icmp_ne X 243 238 dL_others_235 (by decide) rfl (by omega) (by omega) (fun hc235 => ?_) (fun hc235 => by exfalso; omega)
      refine G.iload X 245 dL_others_243 rfl rfl ?_
      refine G.neF X 248 dL_others_245 267 (by decide) rfl (rfl) ?_
      refine G.aload_n X 249 dL_others_248 rfl rfl ?_
      refine G.iconst X 250 dL_others_249 rfl ?_
      refine G.bipush X 252 dL_others_250 rfl (by decide) ?_
      refine G.bipush X 254 dL_others_252 rfl (by decide) ?_
      refine G.iconst X 255 dL_others_254 rfl ?_
      refine GS.addSetN X hO ml_L_80 258 dL_others_255 rfl (addSet_b (by omega)) (by decide) (by decide) (by decide) (by decide) (by decide) ⟨Nat.zero_le _, Nat.zero_le _⟩ (Nat.le_of_ble_eq_true rfl) (fun M hO => ?_)
      refine G.bipush X 260 dL_others_258 rfl (by decide) ?_
      refine G.icmp_ne X 267 263 dL_others_260 (by decide) rfl (by omega) (by omega) (fun hc260 => by exact absurd hc260 (by decide)) (fun hc260 => ?_)
      refine G.iconst X 264 dL_others_263 rfl ?_
      refine G.goto X 268 dL_others_264 (by decide) ?_
      refine G.zret X dL_others_268 ⟨Nat.le_refl _, Nat.le_refl _⟩ (Or.inr rfl) ⟨rfl, rfl, rfl, _, rfl, ?_⟩
      exact ⟨rfl, _, _, hO, Or.inr rfl⟩
  · skip
    refine G.iload_n X 1 dL_others_0 rfl rfl ?_
    refine G.bipush X 3 dL_others_1 rfl (by decide) ?_
    refine G.icmp_ne X 100 6 dL_others_3 (by decide) rfl (by omega) (by omega) (fun hc3 => ?_) (fun hc3 => by exfalso; omega)
    refine G.iload_n X 101 dL_others_100 rfl rfl ?_
    refine G.bipush X 103 dL_others_101 rfl (by decide) ?_
    refine G.icmp_ne X 162 106 dL_others_103 (by decide) rfl (by omega) (by omega) (fun hc103 => ?_) (fun hc103 => by exfalso; omega)
    refine G.iload_n X 163 dL_others_162 rfl rfl ?_
    refine G.bipush X 165 dL_others_163 rfl (by decide) ?_
    refine G.icmp_ge X 269 168 dL_others_165 (by decide) rfl (by omega) (by omega) (fun hc165 => ?_) (fun hc165 => by exfalso; omega)
    refine G.aload_n X 270 dL_others_269 rfl rfl ?_
    refine G.bipush X 272 dL_others_270 rfl (by decide) ?_
    refine GS.count X hO ml_L_13 275 dL_others_272 rfl (cnt_9) (by decide) (by decide) ⟨Nat.zero_le _, Nat.zero_le _⟩ (Nat.le_of_ble_eq_true rfl) (fun M hO => ?_)
    refine G.istore (ls' := [_, _, _, _, _, _, _, _]) X 277 dL_others_275 rfl (by decide) rfl ?_
    refine G.aload_n X 278 dL_others_277 rfl rfl ?_
    refine G.iconst X 279 dL_others_278 rfl ?_
    refine GS.count X hO ml_L_13 282 dL_others_279 rfl (cnt_0) (by decide) (by decide) ⟨Nat.zero_le _, Nat.zero_le _⟩ (Nat.le_of_ble_eq_true rfl) (fun M hO => ?_)
    refine G.iload_n X 283 dL_others_282 rfl rfl ?_
    refine G.iconst X 284 dL_others_283 rfl ?_
    refine GS.low X ml_L_52 287 dL_others_284 rfl (by omega) (by decide) ⟨Nat.zero_le _, Nat.zero_le _⟩ (Nat.le_of_ble_eq_true rfl) (fun j284 hj284 => ?_)
    refine G.iadd X 288 dL_others_287 rfl ?_
    refine G.iconst X 289 dL_others_288 rfl ?_
    refine G.isub X 290 dL_others_289 rfl ?_
    refine G.istore (ls' := [_, _, _, _, _, _, _, _]) X 292 dL_others_290 rfl (by decide) rfl ?_
    refine G.aload_n X 293 dL_others_292 rfl rfl ?_
    refine G.iconst X 294 dL_others_293 rfl ?_
    refine GS.count X hO ml_L_13 297 dL_others_294 rfl (cnt_0) (by decide) (by decide) ⟨Nat.zero_le _, Nat.zero_le _⟩ (Nat.le_of_ble_eq_true rfl) (fun M hO => ?_)
    refine G.iconst X 298 dL_others_297 rfl ?_
    refine G.iadd X 299 dL_others_298 rfl ?_
    refine G.iload_n X 300 dL_others_299 rfl rfl ?_
    refine G.iconst X 301 dL_others_300 rfl ?_
    refine G.ishrX X 302 dL_others_301 rfl (fun y301 hy301 => ?_)
    refine G.bipush X 304 dL_others_302 rfl (by decide) ?_
    refine GS.low X ml_L_52 307 dL_others_304 rfl (by omega) (by decide) ⟨Nat.zero_le _, Nat.zero_le _⟩ (Nat.le_of_ble_eq_true rfl) (fun j304 hj304 => ?_)
    refine G.iadd X 308 dL_others_307 rfl ?_
    refine G.istore (ls' := [_, _, _, _, _, _, _, _]) X 310 dL_others_308 rfl (by decide) rfl ?_
    by_cases hq : 0 ≤ r 0 + (j284 : Int) - 2 ∧ r 0 + (j284 : Int) - 2 < 999 ∧ r 0 + (j284 : Int) - 2 < r 0 + 1 + (j304 : Int) ∧ r 0 + 1 + (j304 : Int) < 1000
    · skip
      refine G.iload X 312 dL_others_310 rfl rfl ?_
      refine G.if_lt X 342 315 dL_others_312 (by decide) rfl (by omega) (fun hc312 => by exfalso; omega) (fun hc312 => ?_)
      refine G.iload X 317 dL_others_315 rfl rfl ?_
      refine G.sipush X 320 dL_others_317 rfl (by decide) ?_
      refine G.icmp_ge X 342 323 dL_others_320 (by decide) rfl (by omega) (by omega) (fun hc320 => by exfalso; omega) (fun hc320 => ?_)
      refine G.iload X 325 dL_others_323 rfl rfl ?_
      refine G.iload X 327 dL_others_325 rfl rfl ?_
      refine G.icmp_le X 342 330 dL_others_327 (by decide) rfl (by omega) (by omega) (fun hc327 => by exfalso; omega) (fun hc327 => ?_)
      refine G.iload X 332 dL_others_330 rfl rfl ?_
      refine G.sipush X 335 dL_others_332 rfl (by decide) ?_
      refine G.icmp_ge X 342 338 dL_others_335 (by decide) rfl (by omega) (by omega) (fun hc335 => by exfalso; omega) (fun hc335 => ?_)
      refine G.iconst X 339 dL_others_338 rfl ?_
      refine G.goto X 343 dL_others_339 (by decide) ?_
      refine G.istore (ls' := [_, _, _, _, _, _, _, _]) X 345 dL_others_343 rfl (by decide) rfl ?_
      by_cases hf : 12 ≤ r 7
      · skip
        refine G.aload_n X 346 dL_others_345 rfl rfl ?_
        refine G.iconst X 347 dL_others_346 rfl ?_
        refine G.iload_n X 348 dL_others_347 rfl rfl ?_
        refine G.bipush X 350 dL_others_348 rfl (by decide) ?_
        refine GS.low X ml_L_52 353 dL_others_350 rfl (by omega) (by decide) ⟨Nat.zero_le _, Nat.zero_le _⟩ (Nat.le_of_ble_eq_true rfl) (fun j350 hj350 => ?_)
        refine G.iadd X 354 dL_others_353 rfl ?_
        refine G.iconst X 355 dL_others_354 rfl ?_
        refine G.iload_n X 356 dL_others_355 rfl rfl ?_
        refine G.iconst X 357 dL_others_356 rfl ?_
        refine G.ishrX X 358 dL_others_357 rfl (fun y357 hy357 => ?_)
        refine G.bipush X 360 dL_others_358 rfl (by decide) ?_
        refine GS.low X ml_L_52 363 dL_others_360 rfl (by omega) (by decide) ⟨Nat.zero_le _, Nat.zero_le _⟩ (Nat.le_of_ble_eq_true rfl) (fun j360 hj360 => ?_)
        refine G.iadd X 364 dL_others_363 rfl ?_
        refine G.iload X 366 dL_others_364 rfl rfl ?_
        refine G.iload X 368 dL_others_366 rfl rfl ?_
        refine GS.addSiteN X hO ml_L_84 371 dL_others_368 rfl (addSite_f (by omega) hf) (by omega) (by omega) (by omega) (by omega) (by decide) ⟨Nat.zero_le _, Nat.zero_le _⟩ (Nat.le_of_ble_eq_true rfl) (fun M hO => ?_)
        refine G.iload X 373 dL_others_371 rfl rfl ?_
        refine G.if_ne X 381 376 dL_others_373 (by decide) rfl (by omega) (fun hc373 => ?_) (fun hc373 => by exact absurd hc373 (by decide))
        refine G.iload X 383 dL_others_381 rfl rfl ?_
        refine G.bipush X 385 dL_others_383 rfl (by decide) ?_
        refine G.icmp_ne X 393 388 dL_others_385 (by decide) rfl (by omega) (by omega) (fun hc385 => by exfalso; omega) (fun hc385 => ?_)
        refine G.bipush X 390 dL_others_388 rfl (by decide) ?_
        refine G.goto X 395 dL_others_390 (by decide) ?_
        refine G.icmp_ne X 418 398 dL_others_395 (by decide) rfl (by omega) (by omega) (fun hc395 => by exact absurd hc395 (by decide)) (fun hc395 => ?_)
        refine G.aload_n X 399 dL_others_398 rfl rfl ?_
        refine G.bipush X 401 dL_others_399 rfl (by decide) ?_
        refine G.iconst X 402 dL_others_401 rfl ?_
        refine G.iconst X 403 dL_others_402 rfl ?_
        refine G.sipush X 406 dL_others_403 rfl (by decide) ?_
        refine GS.addSiteN X hO ml_L_84 409 dL_others_406 rfl (addSite_b (by omega)) (by decide) (by decide) (by decide) (by decide) (by decide) ⟨Nat.zero_le _, Nat.zero_le _⟩ (Nat.le_of_ble_eq_true rfl) (fun M hO => ?_)
        refine G.bipush X 411 dL_others_409 rfl (by decide) ?_
        refine G.icmp_ne X 418 414 dL_others_411 (by decide) rfl (by omega) (by omega) (fun hc411 => by exact absurd hc411 (by decide)) (fun hc411 => ?_)
        refine G.iconst X 415 dL_others_414 rfl ?_
        refine G.goto X 419 dL_others_415 (by decide) ?_
        refine G.zret X dL_others_419 ⟨Nat.le_refl _, Nat.le_refl _⟩ (Or.inr rfl) ⟨rfl, rfl, rfl, _, rfl, ?_⟩
        exact ⟨rfl, r, h, hO, Or.inl ⟨rfl, rfl⟩⟩
      · skip
        refine G.aload_n X 346 dL_others_345 rfl rfl ?_
        refine G.iconst X 347 dL_others_346 rfl ?_
        refine G.iload_n X 348 dL_others_347 rfl rfl ?_
        refine G.bipush X 350 dL_others_348 rfl (by decide) ?_
        refine GS.low X ml_L_52 353 dL_others_350 rfl (by omega) (by decide) ⟨Nat.zero_le _, Nat.zero_le _⟩ (Nat.le_of_ble_eq_true rfl) (fun j350 hj350 => ?_)
        refine G.iadd X 354 dL_others_353 rfl ?_
        refine G.iconst X 355 dL_others_354 rfl ?_
        refine G.iload_n X 356 dL_others_355 rfl rfl ?_
        refine G.iconst X 357 dL_others_356 rfl ?_
        refine G.ishrX X 358 dL_others_357 rfl (fun y357 hy357 => ?_)
        refine G.bipush X 360 dL_others_358 rfl (by decide) ?_
        refine GS.low X ml_L_52 363 dL_others_360 rfl (by omega) (by decide) ⟨Nat.zero_le _, Nat.zero_le _⟩ (Nat.le_of_ble_eq_true rfl) (fun j360 hj360 => ?_)
        refine G.iadd X 364 dL_others_363 rfl ?_
        refine G.iload X 366 dL_others_364 rfl rfl ?_
        refine G.iload X 368 dL_others_366 rfl rfl ?_
        refine GS.addSiteS X hO ml_L_84 371 dL_others_368 rfl (addSite_s (by omega) hf) (hI.1.addSite (by omega) (by omega) (by omega) (by omega) (by omega)) (by omega) (by omega) (by omega) (by omega) (by decide) ⟨Nat.zero_le _, Nat.zero_le _⟩ (Nat.le_of_ble_eq_true rfl) (fun M hO => ?_)
        refine G.iload X 373 dL_others_371 rfl rfl ?_
        refine G.if_ne X 381 376 dL_others_373 (by decide) rfl (by omega) (fun hc373 => ?_) (fun hc373 => by exact absurd hc373 (by decide))
        refine G.iload X 383 dL_others_381 rfl rfl ?_
        refine G.bipush X 385 dL_others_383 rfl (by decide) ?_
        refine G.icmp_ne X 393 388 dL_others_385 (by decide) rfl (by omega) (by omega) (fun hc385 => ?_) (fun hc385 => by exfalso; omega)
        refine G.iload X 395 dL_others_393 rfl rfl ?_
        refine G.neF X 398 dL_others_395 418 (by decide) rfl (rfl) ?_
        refine G.aload_n X 399 dL_others_398 rfl rfl ?_
        refine G.bipush X 401 dL_others_399 rfl (by decide) ?_
        refine G.iconst X 402 dL_others_401 rfl ?_
        refine G.iconst X 403 dL_others_402 rfl ?_
        refine G.sipush X 406 dL_others_403 rfl (by decide) ?_
        refine GS.addSiteN X hO ml_L_84 409 dL_others_406 rfl (addSite_b (by omega)) (by decide) (by decide) (by decide) (by decide) (by decide) ⟨Nat.zero_le _, Nat.zero_le _⟩ (Nat.le_of_ble_eq_true rfl) (fun M hO => ?_)
        refine G.bipush X 411 dL_others_409 rfl (by decide) ?_
        refine G.icmp_ne X 418 414 dL_others_411 (by decide) rfl (by omega) (by omega) (fun hc411 => by exact absurd hc411 (by decide)) (fun hc411 => ?_)
        refine G.iconst X 415 dL_others_414 rfl ?_
        refine G.goto X 419 dL_others_415 (by decide) ?_
        refine G.zret X dL_others_419 ⟨Nat.le_refl _, Nat.le_refl _⟩ (Or.inr rfl) ⟨rfl, rfl, rfl, _, rfl, ?_⟩
        exact ⟨rfl, _, _, hO, Or.inr rfl⟩
    · skip
      refine G.iload X 312 dL_others_310 rfl rfl ?_
      refine G.if_lt X 342 315 dL_others_312 (by decide) rfl (by omega) (fun hc312 => ?_) (fun hc312 => ?_)
      · refine G.iconst X 343 dL_others_342 rfl ?_
        refine G.istore (ls' := [_, _, _, _, _, _, _, _]) X 345 dL_others_343 rfl (by decide) rfl ?_
        refine G.aload_n X 346 dL_others_345 rfl rfl ?_
        refine G.iconst X 347 dL_others_346 rfl ?_
        refine G.iload_n X 348 dL_others_347 rfl rfl ?_
        refine G.bipush X 350 dL_others_348 rfl (by decide) ?_
        refine GS.low X ml_L_52 353 dL_others_350 rfl (by omega) (by decide) ⟨Nat.zero_le _, Nat.zero_le _⟩ (Nat.le_of_ble_eq_true rfl) (fun j350 hj350 => ?_)
        refine G.iadd X 354 dL_others_353 rfl ?_
        refine G.iconst X 355 dL_others_354 rfl ?_
        refine G.iload_n X 356 dL_others_355 rfl rfl ?_
        refine G.iconst X 357 dL_others_356 rfl ?_
        refine G.ishrX X 358 dL_others_357 rfl (fun y357 hy357 => ?_)
        refine G.bipush X 360 dL_others_358 rfl (by decide) ?_
        refine GS.low X ml_L_52 363 dL_others_360 rfl (by omega) (by decide) ⟨Nat.zero_le _, Nat.zero_le _⟩ (Nat.le_of_ble_eq_true rfl) (fun j360 hj360 => ?_)
        refine G.iadd X 364 dL_others_363 rfl ?_
        refine G.iload X 366 dL_others_364 rfl rfl ?_
        refine G.iload X 368 dL_others_366 rfl rfl ?_
        refine GS.addSiteN X hO ml_L_84 371 dL_others_368 rfl (addSite_b (by omega)) (by omega) (by omega) (by omega) (by omega) (by decide) ⟨Nat.zero_le _, Nat.zero_le _⟩ (Nat.le_of_ble_eq_true rfl) (fun M hO => ?_)
        refine G.iload X 373 dL_others_371 rfl rfl ?_
        refine G.if_ne X 381 376 dL_others_373 (by decide) rfl (by omega) (fun hc373 => by exact absurd hc373 (by decide)) (fun hc373 => ?_)
        refine G.bipush X 378 dL_others_376 rfl (by decide) ?_
        refine G.goto X 395 dL_others_378 (by decide) ?_
        refine G.icmp_ne X 418 398 dL_others_395 (by decide) rfl (by omega) (by omega) (fun hc395 => by exact absurd hc395 (by decide)) (fun hc395 => ?_)
        refine G.aload_n X 399 dL_others_398 rfl rfl ?_
        refine G.bipush X 401 dL_others_399 rfl (by decide) ?_
        refine G.iconst X 402 dL_others_401 rfl ?_
        refine G.iconst X 403 dL_others_402 rfl ?_
        refine G.sipush X 406 dL_others_403 rfl (by decide) ?_
        refine GS.addSiteN X hO ml_L_84 409 dL_others_406 rfl (addSite_b (by omega)) (by decide) (by decide) (by decide) (by decide) (by decide) ⟨Nat.zero_le _, Nat.zero_le _⟩ (Nat.le_of_ble_eq_true rfl) (fun M hO => ?_)
        refine G.bipush X 411 dL_others_409 rfl (by decide) ?_
        refine G.icmp_ne X 418 414 dL_others_411 (by decide) rfl (by omega) (by omega) (fun hc411 => by exact absurd hc411 (by decide)) (fun hc411 => ?_)
        refine G.iconst X 415 dL_others_414 rfl ?_
        refine G.goto X 419 dL_others_415 (by decide) ?_
        refine G.zret X dL_others_419 ⟨Nat.le_refl _, Nat.le_refl _⟩ (Or.inr rfl) ⟨rfl, rfl, rfl, _, rfl, ?_⟩
        exact ⟨rfl, r, h, hO, Or.inl ⟨rfl, rfl⟩⟩
      · refine G.iload X 317 dL_others_315 rfl rfl ?_
        refine G.sipush X 320 dL_others_317 rfl (by decide) ?_
        refine G.icmp_ge X 342 323 dL_others_320 (by decide) rfl (by omega) (by omega) (fun hc320 => ?_) (fun hc320 => ?_)
        · refine G.iconst X 343 dL_others_342 rfl ?_
          refine G.istore (ls' := [_, _, _, _, _, _, _, _]) X 345 dL_others_343 rfl (by decide) rfl ?_
          refine G.aload_n X 346 dL_others_345 rfl rfl ?_
          refine G.iconst X 347 dL_others_346 rfl ?_
          refine G.iload_n X 348 dL_others_347 rfl rfl ?_
          refine G.bipush X 350 dL_others_348 rfl (by decide) ?_
          refine GS.low X ml_L_52 353 dL_others_350 rfl (by omega) (by decide) ⟨Nat.zero_le _, Nat.zero_le _⟩ (Nat.le_of_ble_eq_true rfl) (fun j350 hj350 => ?_)
          refine G.iadd X 354 dL_others_353 rfl ?_
          refine G.iconst X 355 dL_others_354 rfl ?_
          refine G.iload_n X 356 dL_others_355 rfl rfl ?_
          refine G.iconst X 357 dL_others_356 rfl ?_
          refine G.ishrX X 358 dL_others_357 rfl (fun y357 hy357 => ?_)
          refine G.bipush X 360 dL_others_358 rfl (by decide) ?_
          refine GS.low X ml_L_52 363 dL_others_360 rfl (by omega) (by decide) ⟨Nat.zero_le _, Nat.zero_le _⟩ (Nat.le_of_ble_eq_true rfl) (fun j360 hj360 => ?_)
          refine G.iadd X 364 dL_others_363 rfl ?_
          refine G.iload X 366 dL_others_364 rfl rfl ?_
          refine G.iload X 368 dL_others_366 rfl rfl ?_
          refine GS.addSiteN X hO ml_L_84 371 dL_others_368 rfl (addSite_b (by omega)) (by omega) (by omega) (by omega) (by omega) (by decide) ⟨Nat.zero_le _, Nat.zero_le _⟩ (Nat.le_of_ble_eq_true rfl) (fun M hO => ?_)
          refine G.iload X 373 dL_others_371 rfl rfl ?_
          refine G.if_ne X 381 376 dL_others_373 (by decide) rfl (by omega) (fun hc373 => by exact absurd hc373 (by decide)) (fun hc373 => ?_)
          refine G.bipush X 378 dL_others_376 rfl (by decide) ?_
          refine G.goto X 395 dL_others_378 (by decide) ?_
          refine G.icmp_ne X 418 398 dL_others_395 (by decide) rfl (by omega) (by omega) (fun hc395 => by exact absurd hc395 (by decide)) (fun hc395 => ?_)
          refine G.aload_n X 399 dL_others_398 rfl rfl ?_
          refine G.bipush X 401 dL_others_399 rfl (by decide) ?_
          refine G.iconst X 402 dL_others_401 rfl ?_
          refine G.iconst X 403 dL_others_402 rfl ?_
          refine G.sipush X 406 dL_others_403 rfl (by decide) ?_
          refine GS.addSiteN X hO ml_L_84 409 dL_others_406 rfl (addSite_b (by omega)) (by decide) (by decide) (by decide) (by decide) (by decide) ⟨Nat.zero_le _, Nat.zero_le _⟩ (Nat.le_of_ble_eq_true rfl) (fun M hO => ?_)
          refine G.bipush X 411 dL_others_409 rfl (by decide) ?_
          refine G.icmp_ne X 418 414 dL_others_411 (by decide) rfl (by omega) (by omega) (fun hc411 => by exact absurd hc411 (by decide)) (fun hc411 => ?_)
          refine G.iconst X 415 dL_others_414 rfl ?_
          refine G.goto X 419 dL_others_415 (by decide) ?_
          refine G.zret X dL_others_419 ⟨Nat.le_refl _, Nat.le_refl _⟩ (Or.inr rfl) ⟨rfl, rfl, rfl, _, rfl, ?_⟩
          exact ⟨rfl, r, h, hO, Or.inl ⟨rfl, rfl⟩⟩
        · refine G.iload X 325 dL_others_323 rfl rfl ?_
          refine G.iload X 327 dL_others_325 rfl rfl ?_
          refine G.icmp_le X 342 330 dL_others_327 (by decide) rfl (by omega) (by omega) (fun hc327 => ?_) (fun hc327 => ?_)
          · refine G.iconst X 343 dL_others_342 rfl ?_
            refine G.istore (ls' := [_, _, _, _, _, _, _, _]) X 345 dL_others_343 rfl (by decide) rfl ?_
            refine G.aload_n X 346 dL_others_345 rfl rfl ?_
            refine G.iconst X 347 dL_others_346 rfl ?_
            refine G.iload_n X 348 dL_others_347 rfl rfl ?_
            refine G.bipush X 350 dL_others_348 rfl (by decide) ?_
            refine GS.low X ml_L_52 353 dL_others_350 rfl (by omega) (by decide) ⟨Nat.zero_le _, Nat.zero_le _⟩ (Nat.le_of_ble_eq_true rfl) (fun j350 hj350 => ?_)
            refine G.iadd X 354 dL_others_353 rfl ?_
            refine G.iconst X 355 dL_others_354 rfl ?_
            refine G.iload_n X 356 dL_others_355 rfl rfl ?_
            refine G.iconst X 357 dL_others_356 rfl ?_
            refine G.ishrX X 358 dL_others_357 rfl (fun y357 hy357 => ?_)
            refine G.bipush X 360 dL_others_358 rfl (by decide) ?_
            refine GS.low X ml_L_52 363 dL_others_360 rfl (by omega) (by decide) ⟨Nat.zero_le _, Nat.zero_le _⟩ (Nat.le_of_ble_eq_true rfl) (fun j360 hj360 => ?_)
            refine G.iadd X 364 dL_others_363 rfl ?_
            refine G.iload X 366 dL_others_364 rfl rfl ?_
            refine G.iload X 368 dL_others_366 rfl rfl ?_
            refine GS.addSiteN X hO ml_L_84 371 dL_others_368 rfl (addSite_b (by omega)) (by omega) (by omega) (by omega) (by omega) (by decide) ⟨Nat.zero_le _, Nat.zero_le _⟩ (Nat.le_of_ble_eq_true rfl) (fun M hO => ?_)
            refine G.iload X 373 dL_others_371 rfl rfl ?_
            refine G.if_ne X 381 376 dL_others_373 (by decide) rfl (by omega) (fun hc373 => by exact absurd hc373 (by decide)) (fun hc373 => ?_)
            refine G.bipush X 378 dL_others_376 rfl (by decide) ?_
            refine G.goto X 395 dL_others_378 (by decide) ?_
            refine G.icmp_ne X 418 398 dL_others_395 (by decide) rfl (by omega) (by omega) (fun hc395 => by exact absurd hc395 (by decide)) (fun hc395 => ?_)
            refine G.aload_n X 399 dL_others_398 rfl rfl ?_
            refine G.bipush X 401 dL_others_399 rfl (by decide) ?_
            refine G.iconst X 402 dL_others_401 rfl ?_
            refine G.iconst X 403 dL_others_402 rfl ?_
            refine G.sipush X 406 dL_others_403 rfl (by decide) ?_
            refine GS.addSiteN X hO ml_L_84 409 dL_others_406 rfl (addSite_b (by omega)) (by decide) (by decide) (by decide) (by decide) (by decide) ⟨Nat.zero_le _, Nat.zero_le _⟩ (Nat.le_of_ble_eq_true rfl) (fun M hO => ?_)
            refine G.bipush X 411 dL_others_409 rfl (by decide) ?_
            refine G.icmp_ne X 418 414 dL_others_411 (by decide) rfl (by omega) (by omega) (fun hc411 => by exact absurd hc411 (by decide)) (fun hc411 => ?_)
            refine G.iconst X 415 dL_others_414 rfl ?_
            refine G.goto X 419 dL_others_415 (by decide) ?_
            refine G.zret X dL_others_419 ⟨Nat.le_refl _, Nat.le_refl _⟩ (Or.inr rfl) ⟨rfl, rfl, rfl, _, rfl, ?_⟩
            exact ⟨rfl, r, h, hO, Or.inl ⟨rfl, rfl⟩⟩
          · refine G.iload X 332 dL_others_330 rfl rfl ?_
            refine G.sipush X 335 dL_others_332 rfl (by decide) ?_
            refine G.icmp_ge X 342 338 dL_others_335 (by decide) rfl (by omega) (by omega) (fun hc335 => ?_) (fun hc335 => ?_)
            · refine G.iconst X 343 dL_others_342 rfl ?_
              refine G.istore (ls' := [_, _, _, _, _, _, _, _]) X 345 dL_others_343 rfl (by decide) rfl ?_
              refine G.aload_n X 346 dL_others_345 rfl rfl ?_
              refine G.iconst X 347 dL_others_346 rfl ?_
              refine G.iload_n X 348 dL_others_347 rfl rfl ?_
              refine G.bipush X 350 dL_others_348 rfl (by decide) ?_
              refine GS.low X ml_L_52 353 dL_others_350 rfl (by omega) (by decide) ⟨Nat.zero_le _, Nat.zero_le _⟩ (Nat.le_of_ble_eq_true rfl) (fun j350 hj350 => ?_)
              refine G.iadd X 354 dL_others_353 rfl ?_
              refine G.iconst X 355 dL_others_354 rfl ?_
              refine G.iload_n X 356 dL_others_355 rfl rfl ?_
              refine G.iconst X 357 dL_others_356 rfl ?_
              refine G.ishrX X 358 dL_others_357 rfl (fun y357 hy357 => ?_)
              refine G.bipush X 360 dL_others_358 rfl (by decide) ?_
              refine GS.low X ml_L_52 363 dL_others_360 rfl (by omega) (by decide) ⟨Nat.zero_le _, Nat.zero_le _⟩ (Nat.le_of_ble_eq_true rfl) (fun j360 hj360 => ?_)
              refine G.iadd X 364 dL_others_363 rfl ?_
              refine G.iload X 366 dL_others_364 rfl rfl ?_
              refine G.iload X 368 dL_others_366 rfl rfl ?_
              refine GS.addSiteN X hO ml_L_84 371 dL_others_368 rfl (addSite_b (by omega)) (by omega) (by omega) (by omega) (by omega) (by decide) ⟨Nat.zero_le _, Nat.zero_le _⟩ (Nat.le_of_ble_eq_true rfl) (fun M hO => ?_)
              refine G.iload X 373 dL_others_371 rfl rfl ?_
              refine G.if_ne X 381 376 dL_others_373 (by decide) rfl (by omega) (fun hc373 => by exact absurd hc373 (by decide)) (fun hc373 => ?_)
              refine G.bipush X 378 dL_others_376 rfl (by decide) ?_
              refine G.goto X 395 dL_others_378 (by decide) ?_
              refine G.icmp_ne X 418 398 dL_others_395 (by decide) rfl (by omega) (by omega) (fun hc395 => by exact absurd hc395 (by decide)) (fun hc395 => ?_)
              refine G.aload_n X 399 dL_others_398 rfl rfl ?_
              refine G.bipush X 401 dL_others_399 rfl (by decide) ?_
              refine G.iconst X 402 dL_others_401 rfl ?_
              refine G.iconst X 403 dL_others_402 rfl ?_
              refine G.sipush X 406 dL_others_403 rfl (by decide) ?_
              refine GS.addSiteN X hO ml_L_84 409 dL_others_406 rfl (addSite_b (by omega)) (by decide) (by decide) (by decide) (by decide) (by decide) ⟨Nat.zero_le _, Nat.zero_le _⟩ (Nat.le_of_ble_eq_true rfl) (fun M hO => ?_)
              refine G.bipush X 411 dL_others_409 rfl (by decide) ?_
              refine G.icmp_ne X 418 414 dL_others_411 (by decide) rfl (by omega) (by omega) (fun hc411 => by exact absurd hc411 (by decide)) (fun hc411 => ?_)
              refine G.iconst X 415 dL_others_414 rfl ?_
              refine G.goto X 419 dL_others_415 (by decide) ?_
              refine G.zret X dL_others_419 ⟨Nat.le_refl _, Nat.le_refl _⟩ (Or.inr rfl) ⟨rfl, rfl, rfl, _, rfl, ?_⟩
              exact ⟨rfl, r, h, hO, Or.inl ⟨rfl, rfl⟩⟩
            · exfalso
              omega
