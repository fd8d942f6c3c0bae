set_option maxHeartbeats 1000000 in
set_option maxRecDepth 100000 in
theorem c_X6_isDark (l : Launch) (D : xD) (Bs sz : Nat) (kd : xKd) (rf : xRf) (M : xM) (y j : Nat) (x : Int) (hY : ShY kd rf y) (hj : j < 12) : CtV l D Bs yX6_isDark cX6_isDark 3 none 1 [.ref y, vi (j : Int), vi x] sz kd rf M (fun M' => M' = ms M (y + 1) (fu (fu (fu (M (y + 1)) (116 + 10 * j + 6) (fC (M (y + 1)) j 6 + 1)) (116 + 10 * j + 8) x) 9 ((M (y + 1)) 9 + 1))) := by
  refine Ctr.of (yv_X6_isDark.1.2.2.2.2) (List.forall_mem_cons.mpr ⟨rfl, List.forall_mem_cons.mpr ⟨rfl, List.forall_mem_cons.mpr ⟨rfl, fun _ h => absurd h List.not_mem_nil⟩⟩⟩) (Nat.le_of_ble_eq_true rfl) [some (.ref y), some (vi (j : Int)), some (vi x)] rfl ?_
  intro p e s m args below meth c X hin
  refine G.aload_n X 1 dX6_isDark_0 rfl rfl ?_
  refine G.iload_n X 2 dX6_isDark_1 rfl rfl ?_
  refine G.bipush X 4 dX6_isDark_2 rfl (by decide) ?_
  refine G.aload_n X 5 dX6_isDark_4 rfl rfl ?_
  refine G.iload_n X 6 dX6_isDark_5 rfl rfl ?_
  refine G.bipush X 8 dX6_isDark_6 rfl (by decide) ?_
  refine G.vI2 (d := 0) X ml_X6_78 yv_X6_ofSite 11 dX6_isDark_8 rfl (c_X6_ofSite l D Bs _ kd rf _ y (j) 6 hY (by omega) (by decide)) ⟨_, _, (hY).1, rfl, rfl⟩ (by decide) ⟨Nat.zero_le _, Nat.zero_le _⟩ (Nat.le_of_ble_eq_true rfl) (fun r8 M8 h8 => ?_)
  obtain ⟨hr8, hm8⟩ := h8
  subst hr8
  obtain rfl := hm8.symm
  refine G.iconst X 12 dX6_isDark_11 rfl ?_
  refine G.iadd X 13 dX6_isDark_12 rfl ?_
  refine G.vV3 (d := 0) X ml_X6_67 yv_X6_toSite 16 dX6_isDark_13 rfl (c_X6_toSite l D Bs _ kd rf _ y (j) 6 _ hY (by omega) (by decide)) ⟨_, _, (hY).1, rfl, rfl⟩ (by decide) ⟨Nat.zero_le _, Nat.zero_le _⟩ (Nat.le_of_ble_eq_true rfl) (fun M13 h13 => ?_)
  subst h13
  try simp only [ms_same, ms_ms]
  refine G.aload_n X 17 dX6_isDark_16 rfl rfl ?_
  refine G.iload_n X 18 dX6_isDark_17 rfl rfl ?_
  refine G.bipush X 20 dX6_isDark_18 rfl (by decide) ?_
  refine G.iload_n X 21 dX6_isDark_20 rfl rfl ?_
  refine G.vV3 (d := 0) X ml_X6_67 yv_X6_toSite 24 dX6_isDark_21 rfl (c_X6_toSite l D Bs _ kd rf _ y (j) 8 _ hY (by omega) (by decide)) ⟨_, _, (hY).1, rfl, rfl⟩ (by decide) ⟨Nat.zero_le _, Nat.zero_le _⟩ (Nat.le_of_ble_eq_true rfl) (fun M21 h21 => ?_)
  subst h21
  try simp only [ms_same, ms_ms]
  refine G.aload_n X 25 dX6_isDark_24 rfl rfl ?_
  refine G.getR X fl_X6_7 28 dX6_isDark_25 rfl (hY).1 (ShY.r0 hY) ?_
  refine G.bipush X 30 dX6_isDark_28 rfl (by decide) ?_
  refine G.dup2 X 31 dX6_isDark_30 rfl rfl rfl ?_
  refine G.iald X (i := 9) 32 dX6_isDark_31 rfl ((ShY.a0 hY)).1 (((ShY.a0 hY)).2 _) rfl (by omega) (by decide) ?_
  refine G.iconst X 33 dX6_isDark_32 rfl ?_
  refine G.iadd X 34 dX6_isDark_33 rfl ?_
  refine G.iast X (i := 9) 35 dX6_isDark_34 rfl ((ShY.a0 hY)).1 (((ShY.a0 hY)).2 _) rfl (by omega) (by decide) ?_
  refine G.vret X dX6_isDark_35 ⟨Nat.le_refl _, Nat.le_refl _⟩ ⟨rfl, rfl, rfl, rfl, ?_⟩
  simp only [mu, ms_same, ms_ms]
  rw [at_fuC (by decide), at_fuC (by decide)]
theorem litR_alt {r : xR} {s : Nat} {v4 v8 v6 vb v5 v7 va vc : Int} (e4 : v4 = fS r (hasN r s) 4 - fS r (hasN r s) 2) (e8 : v8 = fS r (hasN r s) 8 + 1) (e6 : v6 = bi (fS r (hasN r s) 2 ≤ fS r (hasN r s) 4 - fS r (hasN r s) 2)) (eb : vb = r 4 + fS r (hasN r s) 2) (e5 : v5 = fC r s 5 + 1) (e7 : v7 = fC r s 7 + fS r (hasN r s) 0 * r 2) (ea : va = r 10 + fS r (hasN r s) 0 * r 2) (ec : vc = r 8 + 1) :
    fu (fu (fu (fu (fu (fu (fu (fu r (16 + 10 * hasN r s + 4) v4) (16 + 10 * hasN r s + 8) v8) (16 + 10 * hasN r s + 6) v6) 4 vb) (116 + 10 * s + 5) v5) (116 + 10 * s + 7) v7) 10 va) 8 vc = litR r s := by
  subst e4 e8 e6 eb e5 e7 ea ec
  rfl
set_option maxHeartbeats 1000000 in
set_option maxRecDepth 100000 in
theorem c_X6_isLit (l : Launch) (D : xD) (Bs sz : Nat) (kd : xKd) (rf : xRf) (M : xM) (y j : Nat) (hY : ShY kd rf y) (hV : Vk (M (y + 1))) (hj : j < nC (M (y + 1))) (h4 : 0 < fC (M (y + 1)) j 4) : CtV l D Bs yX6_isLit cX6_isLit 4 none 2 [.ref y, vi (j : Int)] sz kd rf M (fun M' => M' = ms M (y + 1) (litR (M (y + 1)) j)) := by
  refine Ctr.of (yv_X6_isLit.1.2.2.2.2) (List.forall_mem_cons.mpr ⟨rfl, List.forall_mem_cons.mpr ⟨rfl, fun _ h => absurd h List.not_mem_nil⟩⟩) (Nat.le_of_ble_eq_true rfl) [some (.ref y), some (vi (j : Int)), none, none] rfl ?_
  intro p e s m args below meth c X hin
  obtain ⟨n6, n6b⟩ := hV.n6
  obtain ⟨n7, n7b⟩ := hV.n7
  obtain ⟨hm, hme⟩ := hasN_lt hV hj h4
  obtain ⟨v0, v1, v2, -, v4, -, -, -⟩ := hV.2.1 (hasN (M (y + 1)) j) hm
  refine G.aload_n X 1 dX6_isLit_0 rfl rfl ?_
  refine G.iload_n X 2 dX6_isLit_1 rfl rfl ?_
  refine G.vI1 (d := 1) X ml_X6_81 yv_X6_setAt 5 dX6_isLit_2 rfl (c_X6_setAt l D Bs _ kd rf _ y (j) hY (by omega)) ⟨_, _, (hY).1, rfl, rfl⟩ (by decide) ⟨Nat.zero_le _, Nat.zero_le _⟩ (Nat.le_of_ble_eq_true rfl) (fun r2 M2 h2 => ?_)
  obtain ⟨hr2, hm2⟩ := h2
  obtain rfl : r2 = (hasN (M (y + 1)) j : Int) := by omega
  obtain rfl := hm2.symm
  refine G.istore_n (ls' := [_, _, _, _]) X 6 dX6_isLit_5 rfl (by decide) rfl ?_
  refine G.aload_n X 7 dX6_isLit_6 rfl rfl ?_
  refine G.iload_n X 8 dX6_isLit_7 rfl rfl ?_
  refine G.iconst X 9 dX6_isLit_8 rfl ?_
  refine G.aload_n X 10 dX6_isLit_9 rfl rfl ?_
  refine G.iload_n X 11 dX6_isLit_10 rfl rfl ?_
  refine G.iconst X 12 dX6_isLit_11 rfl ?_
  refine G.vI2 (d := 0) X ml_X6_48 yv_X6_ofSet 15 dX6_isLit_12 rfl (c_X6_ofSet l D Bs _ kd rf _ y (hasN (M (y + 1)) j) 4 hY (by omega) (by decide)) ⟨_, _, (hY).1, rfl, rfl⟩ (by decide) ⟨Nat.zero_le _, Nat.zero_le _⟩ (Nat.le_of_ble_eq_true rfl) (fun r12 M12 h12 => ?_)
  obtain ⟨hr12, hm12⟩ := h12
  subst hr12
  obtain rfl := hm12.symm
  refine G.aload_n X 16 dX6_isLit_15 rfl rfl ?_
  refine G.iload_n X 17 dX6_isLit_16 rfl rfl ?_
  refine G.iconst X 18 dX6_isLit_17 rfl ?_
  refine G.vI2 (d := 0) X ml_X6_48 yv_X6_ofSet 21 dX6_isLit_18 rfl (c_X6_ofSet l D Bs _ kd rf _ y (hasN (M (y + 1)) j) 2 hY (by omega) (by decide)) ⟨_, _, (hY).1, rfl, rfl⟩ (by decide) ⟨Nat.zero_le _, Nat.zero_le _⟩ (Nat.le_of_ble_eq_true rfl) (fun r18 M18 h18 => ?_)
  obtain ⟨hr18, hm18⟩ := h18
  subst hr18
  obtain rfl := hm18.symm
  refine G.isub X 22 dX6_isLit_21 rfl ?_
  refine G.vV3 (d := 0) X ml_X6_44 yv_X6_toSet 25 dX6_isLit_22 rfl (c_X6_toSet l D Bs _ kd rf _ y (hasN (M (y + 1)) j) 4 _ hY (by omega) (by decide)) ⟨_, _, (hY).1, rfl, rfl⟩ (by decide) ⟨Nat.zero_le _, Nat.zero_le _⟩ (Nat.le_of_ble_eq_true rfl) (fun M22 h22 => ?_)
  subst h22
  try simp only [ms_same, ms_ms]
  refine G.aload_n X 26 dX6_isLit_25 rfl rfl ?_
  refine G.iload_n X 27 dX6_isLit_26 rfl rfl ?_
  refine G.bipush X 29 dX6_isLit_27 rfl (by decide) ?_
  refine G.aload_n X 30 dX6_isLit_29 rfl rfl ?_
  refine G.iload_n X 31 dX6_isLit_30 rfl rfl ?_
  refine G.bipush X 33 dX6_isLit_31 rfl (by decide) ?_
  refine G.vI2 (d := 0) X ml_X6_48 yv_X6_ofSet 36 dX6_isLit_33 rfl (c_X6_ofSet l D Bs _ kd rf _ y (hasN (M (y + 1)) j) 8 hY (by omega) (by decide)) ⟨_, _, (hY).1, rfl, rfl⟩ (by decide) ⟨Nat.zero_le _, Nat.zero_le _⟩ (Nat.le_of_ble_eq_true rfl) (fun r33 M33 h33 => ?_)
  obtain ⟨hr33, hm33⟩ := h33
  subst hr33
  obtain rfl := hm33.symm
  refine G.iconst X 37 dX6_isLit_36 rfl ?_
  refine G.iadd X 38 dX6_isLit_37 rfl ?_
  refine G.vV3 (d := 0) X ml_X6_44 yv_X6_toSet 41 dX6_isLit_38 rfl (c_X6_toSet l D Bs _ kd rf _ y (hasN (M (y + 1)) j) 8 _ hY (by omega) (by decide)) ⟨_, _, (hY).1, rfl, rfl⟩ (by decide) ⟨Nat.zero_le _, Nat.zero_le _⟩ (Nat.le_of_ble_eq_true rfl) (fun M38 h38 => ?_)
  subst h38
  try simp only [ms_same, ms_ms]
  refine G.aload_n X 42 dX6_isLit_41 rfl rfl ?_
  refine G.iload_n X 43 dX6_isLit_42 rfl rfl ?_
  refine G.bipush X 45 dX6_isLit_43 rfl (by decide) ?_
  refine G.aload_n X 46 dX6_isLit_45 rfl rfl ?_
  refine G.iload_n X 47 dX6_isLit_46 rfl rfl ?_
  refine G.iconst X 48 dX6_isLit_47 rfl ?_
  refine G.vI2 (d := 0) X ml_X6_48 yv_X6_ofSet 51 dX6_isLit_48 rfl (c_X6_ofSet l D Bs _ kd rf _ y (hasN (M (y + 1)) j) 4 hY (by omega) (by decide)) ⟨_, _, (hY).1, rfl, rfl⟩ (by decide) ⟨Nat.zero_le _, Nat.zero_le _⟩ (Nat.le_of_ble_eq_true rfl) (fun r48 M48 h48 => ?_)
  obtain ⟨hr48, hm48⟩ := h48
  have e48 : r48 = fS (M (y + 1)) (hasN (M (y + 1)) j) 4 - fS (M (y + 1)) (hasN (M (y + 1)) j) 2 := by
    rw [hr48]
    try simp only [ms_same]
    (first | rfl | (simp only [fS, fC, fu_at, if_true]; repeat (first | rw [if_neg (by omega)] | rw [if_pos (by omega)])))
  clear hr48
  subst e48
  obtain rfl := hm48.symm
  refine G.aload_n X 52 dX6_isLit_51 rfl rfl ?_
  refine G.iload_n X 53 dX6_isLit_52 rfl rfl ?_
  refine G.iconst X 54 dX6_isLit_53 rfl ?_
  refine G.vI2 (d := 0) X ml_X6_48 yv_X6_ofSet 57 dX6_isLit_54 rfl (c_X6_ofSet l D Bs _ kd rf _ y (hasN (M (y + 1)) j) 2 hY (by omega) (by decide)) ⟨_, _, (hY).1, rfl, rfl⟩ (by decide) ⟨Nat.zero_le _, Nat.zero_le _⟩ (Nat.le_of_ble_eq_true rfl) (fun r54 M54 h54 => ?_)
  obtain ⟨hr54, hm54⟩ := h54
  have e54 : r54 = fS (M (y + 1)) (hasN (M (y + 1)) j) 2 := by
    rw [hr54]
    try simp only [ms_same]
    (first | rfl | (simp only [fS, fC, fu_at, if_true]; repeat (first | rw [if_neg (by omega)] | rw [if_pos (by omega)])))
  clear hr54
  subst e54
  obtain rfl := hm54.symm
  refine G.icmp_ge X 64 60 dX6_isLit_57 (by decide) rfl (by omega) (by omega) (fun hc57 => ?_) (fun hc57 => ?_)
  · refine G.iconst X 65 dX6_isLit_64 rfl ?_
    refine G.vV3 (d := 0) X ml_X6_44 yv_X6_toSet 68 dX6_isLit_65 rfl (c_X6_toSet l D Bs _ kd rf _ y (hasN (M (y + 1)) j) 6 _ hY (by omega) (by decide)) ⟨_, _, (hY).1, rfl, rfl⟩ (by decide) ⟨Nat.zero_le _, Nat.zero_le _⟩ (Nat.le_of_ble_eq_true rfl) (fun M65 h65 => ?_)
    subst h65
    try simp only [ms_same, ms_ms]
    refine G.aload_n X 69 dX6_isLit_68 rfl rfl ?_
    refine G.getR X fl_X6_7 72 dX6_isLit_69 rfl (hY).1 (ShY.r0 hY) ?_
    refine G.iconst X 73 dX6_isLit_72 rfl ?_
    refine G.dup2 X 74 dX6_isLit_73 rfl rfl rfl ?_
    refine G.iald X (i := 4) 75 dX6_isLit_74 rfl ((ShY.a0 hY)).1 (((ShY.a0 hY)).2 _) rfl (by omega) (by decide) ?_
    refine G.aload_n X 76 dX6_isLit_75 rfl rfl ?_
    refine G.iload_n X 77 dX6_isLit_76 rfl rfl ?_
    refine G.iconst X 78 dX6_isLit_77 rfl ?_
    refine G.vI2 (d := 0) X ml_X6_48 yv_X6_ofSet 81 dX6_isLit_78 rfl (c_X6_ofSet l D Bs _ kd rf _ y (hasN (M (y + 1)) j) 2 hY (by omega) (by decide)) ⟨_, _, (hY).1, rfl, rfl⟩ (by decide) ⟨Nat.zero_le _, Nat.zero_le _⟩ (Nat.le_of_ble_eq_true rfl) (fun r78 M78 h78 => ?_)
    obtain ⟨hr78, hm78⟩ := h78
    subst hr78
    obtain rfl := hm78.symm
    refine G.iadd X 82 dX6_isLit_81 rfl ?_
    refine G.iast X (i := 4) 83 dX6_isLit_82 rfl ((ShY.a0 hY)).1 (((ShY.a0 hY)).2 _) rfl (by omega) (by decide) ?_
    refine G.aload_n X 84 dX6_isLit_83 rfl rfl ?_
    refine G.iload_n X 85 dX6_isLit_84 rfl rfl ?_
    refine G.iconst X 86 dX6_isLit_85 rfl ?_
    refine G.vI2 (d := 0) X ml_X6_48 yv_X6_ofSet 89 dX6_isLit_86 rfl (c_X6_ofSet l D Bs _ kd rf _ y (hasN (M (y + 1)) j) 0 hY (by omega) (by decide)) ⟨_, _, (hY).1, rfl, rfl⟩ (by decide) ⟨Nat.zero_le _, Nat.zero_le _⟩ (Nat.le_of_ble_eq_true rfl) (fun r86 M86 h86 => ?_)
    obtain ⟨hr86, hm86⟩ := h86
    subst hr86
    obtain rfl := hm86.symm
    refine G.aload_n X 90 dX6_isLit_89 rfl rfl ?_
    refine G.getR X fl_X6_7 93 dX6_isLit_90 rfl (hY).1 (ShY.r0 hY) ?_
    refine G.iconst X 94 dX6_isLit_93 rfl ?_
    refine G.iald X (i := 2) 95 dX6_isLit_94 rfl ((ShY.a0 hY)).1 (((ShY.a0 hY)).2 _) rfl (by omega) (by decide) ?_
    refine G.imul X 96 dX6_isLit_95 rfl ?_
    refine G.istore_n (ls' := [_, _, _, _]) X 97 dX6_isLit_96 rfl (by decide) rfl ?_
    refine G.aload_n X 98 dX6_isLit_97 rfl rfl ?_
    refine G.iload_n X 99 dX6_isLit_98 rfl rfl ?_
    refine G.iconst X 100 dX6_isLit_99 rfl ?_
    refine G.aload_n X 101 dX6_isLit_100 rfl rfl ?_
    refine G.iload_n X 102 dX6_isLit_101 rfl rfl ?_
    refine G.iconst X 103 dX6_isLit_102 rfl ?_
    refine G.vI2 (d := 0) X ml_X6_78 yv_X6_ofSite 106 dX6_isLit_103 rfl (c_X6_ofSite l D Bs _ kd rf _ y (j) 5 hY (by omega) (by decide)) ⟨_, _, (hY).1, rfl, rfl⟩ (by decide) ⟨Nat.zero_le _, Nat.zero_le _⟩ (Nat.le_of_ble_eq_true rfl) (fun r103 M103 h103 => ?_)
    obtain ⟨hr103, hm103⟩ := h103
    subst hr103
    obtain rfl := hm103.symm
    refine G.iconst X 107 dX6_isLit_106 rfl ?_
    refine G.iadd X 108 dX6_isLit_107 rfl ?_
    refine G.vV3 (d := 0) X ml_X6_67 yv_X6_toSite 111 dX6_isLit_108 rfl (c_X6_toSite l D Bs _ kd rf _ y (j) 5 _ hY (by omega) (by decide)) ⟨_, _, (hY).1, rfl, rfl⟩ (by decide) ⟨Nat.zero_le _, Nat.zero_le _⟩ (Nat.le_of_ble_eq_true rfl) (fun M108 h108 => ?_)
    subst h108
    try simp only [ms_same, ms_ms]
    refine G.aload_n X 112 dX6_isLit_111 rfl rfl ?_
    refine G.iload_n X 113 dX6_isLit_112 rfl rfl ?_
    refine G.bipush X 115 dX6_isLit_113 rfl (by decide) ?_
    refine G.aload_n X 116 dX6_isLit_115 rfl rfl ?_
    refine G.iload_n X 117 dX6_isLit_116 rfl rfl ?_
    refine G.bipush X 119 dX6_isLit_117 rfl (by decide) ?_
    refine G.vI2 (d := 0) X ml_X6_78 yv_X6_ofSite 122 dX6_isLit_119 rfl (c_X6_ofSite l D Bs _ kd rf _ y (j) 7 hY (by omega) (by decide)) ⟨_, _, (hY).1, rfl, rfl⟩ (by decide) ⟨Nat.zero_le _, Nat.zero_le _⟩ (Nat.le_of_ble_eq_true rfl) (fun r119 M119 h119 => ?_)
    obtain ⟨hr119, hm119⟩ := h119
    subst hr119
    obtain rfl := hm119.symm
    refine G.iload_n X 123 dX6_isLit_122 rfl rfl ?_
    refine G.iadd X 124 dX6_isLit_123 rfl ?_
    refine G.vV3 (d := 0) X ml_X6_67 yv_X6_toSite 127 dX6_isLit_124 rfl (c_X6_toSite l D Bs _ kd rf _ y (j) 7 _ hY (by omega) (by decide)) ⟨_, _, (hY).1, rfl, rfl⟩ (by decide) ⟨Nat.zero_le _, Nat.zero_le _⟩ (Nat.le_of_ble_eq_true rfl) (fun M124 h124 => ?_)
    subst h124
    try simp only [ms_same, ms_ms]
    refine G.aload_n X 128 dX6_isLit_127 rfl rfl ?_
    refine G.getR X fl_X6_7 131 dX6_isLit_128 rfl (hY).1 (ShY.r0 hY) ?_
    refine G.bipush X 133 dX6_isLit_131 rfl (by decide) ?_
    refine G.dup2 X 134 dX6_isLit_133 rfl rfl rfl ?_
    refine G.iald X (i := 10) 135 dX6_isLit_134 rfl ((ShY.a0 hY)).1 (((ShY.a0 hY)).2 _) rfl (by omega) (by decide) ?_
    refine G.iload_n X 136 dX6_isLit_135 rfl rfl ?_
    refine G.iadd X 137 dX6_isLit_136 rfl ?_
    refine G.iast X (i := 10) 138 dX6_isLit_137 rfl ((ShY.a0 hY)).1 (((ShY.a0 hY)).2 _) rfl (by omega) (by decide) ?_
    refine G.aload_n X 139 dX6_isLit_138 rfl rfl ?_
    refine G.getR X fl_X6_7 142 dX6_isLit_139 rfl (hY).1 (ShY.r0 hY) ?_
    refine G.bipush X 144 dX6_isLit_142 rfl (by decide) ?_
    refine G.dup2 X 145 dX6_isLit_144 rfl rfl rfl ?_
    refine G.iald X (i := 8) 146 dX6_isLit_145 rfl ((ShY.a0 hY)).1 (((ShY.a0 hY)).2 _) rfl (by omega) (by decide) ?_
    refine G.iconst X 147 dX6_isLit_146 rfl ?_
    refine G.iadd X 148 dX6_isLit_147 rfl ?_
    refine G.iast X (i := 8) 149 dX6_isLit_148 rfl ((ShY.a0 hY)).1 (((ShY.a0 hY)).2 _) rfl (by omega) (by decide) ?_
    refine G.vret X dX6_isLit_149 ⟨Nat.le_refl _, Nat.le_refl _⟩ ⟨rfl, rfl, rfl, rfl, ?_⟩
    simp only [mu, ms_same, ms_ms]
    refine congrArg (ms M (y + 1)) (litR_alt rfl ?_ ?_ ?_ ?_ ?_ ?_ ?_)
    · (first | rfl | (simp only [fS, fC, fu_at, if_true]; repeat (first | rw [if_neg (by omega)] | rw [if_pos (by omega)])))
    · first | exact (bi_t (by omega)).symm | exact (bi_f (by omega)).symm
    · (first | rfl | (simp only [fS, fC, fu_at, if_true]; repeat (first | rw [if_neg (by omega)] | rw [if_pos (by omega)])))
    · (first | rfl | (simp only [fS, fC, fu_at, if_true]; repeat (first | rw [if_neg (by omega)] | rw [if_pos (by omega)])))
    · (first | rfl | (simp only [fS, fC, fu_at, if_true]; repeat (first | rw [if_neg (by omega)] | rw [if_pos (by omega)])))
    · (first | rfl | (simp only [fS, fC, fu_at, if_true]; repeat (first | rw [if_neg (by omega)] | rw [if_pos (by omega)])))
    · (first | rfl | (simp only [fS, fC, fu_at, if_true]; repeat (first | rw [if_neg (by omega)] | rw [if_pos (by omega)])))
  · refine G.iconst X 61 dX6_isLit_60 rfl ?_
    refine G.goto X 65 dX6_isLit_61 (by decide) ?_
    refine G.vV3 (d := 0) X ml_X6_44 yv_X6_toSet 68 dX6_isLit_65 rfl (c_X6_toSet l D Bs _ kd rf _ y (hasN (M (y + 1)) j) 6 _ hY (by omega) (by decide)) ⟨_, _, (hY).1, rfl, rfl⟩ (by decide) ⟨Nat.zero_le _, Nat.zero_le _⟩ (Nat.le_of_ble_eq_true rfl) (fun M65 h65 => ?_)
    subst h65
    try simp only [ms_same, ms_ms]
    refine G.aload_n X 69 dX6_isLit_68 rfl rfl ?_
    refine G.getR X fl_X6_7 72 dX6_isLit_69 rfl (hY).1 (ShY.r0 hY) ?_
    refine G.iconst X 73 dX6_isLit_72 rfl ?_
    refine G.dup2 X 74 dX6_isLit_73 rfl rfl rfl ?_
    refine G.iald X (i := 4) 75 dX6_isLit_74 rfl ((ShY.a0 hY)).1 (((ShY.a0 hY)).2 _) rfl (by omega) (by decide) ?_
    refine G.aload_n X 76 dX6_isLit_75 rfl rfl ?_
    refine G.iload_n X 77 dX6_isLit_76 rfl rfl ?_
    refine G.iconst X 78 dX6_isLit_77 rfl ?_
    refine G.vI2 (d := 0) X ml_X6_48 yv_X6_ofSet 81 dX6_isLit_78 rfl (c_X6_ofSet l D Bs _ kd rf _ y (hasN (M (y + 1)) j) 2 hY (by omega) (by decide)) ⟨_, _, (hY).1, rfl, rfl⟩ (by decide) ⟨Nat.zero_le _, Nat.zero_le _⟩ (Nat.le_of_ble_eq_true rfl) (fun r78 M78 h78 => ?_)
    obtain ⟨hr78, hm78⟩ := h78
    subst hr78
    obtain rfl := hm78.symm
    refine G.iadd X 82 dX6_isLit_81 rfl ?_
    refine G.iast X (i := 4) 83 dX6_isLit_82 rfl ((ShY.a0 hY)).1 (((ShY.a0 hY)).2 _) rfl (by omega) (by decide) ?_
    refine G.aload_n X 84 dX6_isLit_83 rfl rfl ?_
    refine G.iload_n X 85 dX6_isLit_84 rfl rfl ?_
    refine G.iconst X 86 dX6_isLit_85 rfl ?_
    refine G.vI2 (d := 0) X ml_X6_48 yv_X6_ofSet 89 dX6_isLit_86 rfl (c_X6_ofSet l D Bs _ kd rf _ y (hasN (M (y + 1)) j) 0 hY (by omega) (by decide)) ⟨_, _, (hY).1, rfl, rfl⟩ (by decide) ⟨Nat.zero_le _, Nat.zero_le _⟩ (Nat.le_of_ble_eq_true rfl) (fun r86 M86 h86 => ?_)
    obtain ⟨hr86, hm86⟩ := h86
    subst hr86
    obtain rfl := hm86.symm
    refine G.aload_n X 90 dX6_isLit_89 rfl rfl ?_
    refine G.getR X fl_X6_7 93 dX6_isLit_90 rfl (hY).1 (ShY.r0 hY) ?_
    refine G.iconst X 94 dX6_isLit_93 rfl ?_
    refine G.iald X (i := 2) 95 dX6_isLit_94 rfl ((ShY.a0 hY)).1 (((ShY.a0 hY)).2 _) rfl (by omega) (by decide) ?_
    refine G.imul X 96 dX6_isLit_95 rfl ?_
    refine G.istore_n (ls' := [_, _, _, _]) X 97 dX6_isLit_96 rfl (by decide) rfl ?_
    refine G.aload_n X 98 dX6_isLit_97 rfl rfl ?_
    refine G.iload_n X 99 dX6_isLit_98 rfl rfl ?_
    refine G.iconst X 100 dX6_isLit_99 rfl ?_
    refine G.aload_n X 101 dX6_isLit_100 rfl rfl ?_
    refine G.iload_n X 102 dX6_isLit_101 rfl rfl ?_
    refine G.iconst X 103 dX6_isLit_102 rfl ?_
    refine G.vI2 (d := 0) X ml_X6_78 yv_X6_ofSite 106 dX6_isLit_103 rfl (c_X6_ofSite l D Bs _ kd rf _ y (j) 5 hY (by omega) (by decide)) ⟨_, _, (hY).1, rfl, rfl⟩ (by decide) ⟨Nat.zero_le _, Nat.zero_le _⟩ (Nat.le_of_ble_eq_true rfl) (fun r103 M103 h103 => ?_)
    obtain ⟨hr103, hm103⟩ := h103
    subst hr103
    obtain rfl := hm103.symm
    refine G.iconst X 107 dX6_isLit_106 rfl ?_
    refine G.iadd X 108 dX6_isLit_107 rfl ?_
    refine G.vV3 (d := 0) X ml_X6_67 yv_X6_toSite 111 dX6_isLit_108 rfl (c_X6_toSite l D Bs _ kd rf _ y (j) 5 _ hY (by omega) (by decide)) ⟨_, _, (hY).1, rfl, rfl⟩ (by decide) ⟨Nat.zero_le _, Nat.zero_le _⟩ (Nat.le_of_ble_eq_true rfl) (fun M108 h108 => ?_)
    subst h108
    try simp only [ms_same, ms_ms]
    refine G.aload_n X 112 dX6_isLit_111 rfl rfl ?_
    refine G.iload_n X 113 dX6_isLit_112 rfl rfl ?_
    refine G.bipush X 115 dX6_isLit_113 rfl (by decide) ?_
    refine G.aload_n X 116 dX6_isLit_115 rfl rfl ?_
    refine G.iload_n X 117 dX6_isLit_116 rfl rfl ?_
    refine G.bipush X 119 dX6_isLit_117 rfl (by decide) ?_
    refine G.vI2 (d := 0) X ml_X6_78 yv_X6_ofSite 122 dX6_isLit_119 rfl (c_X6_ofSite l D Bs _ kd rf _ y (j) 7 hY (by omega) (by decide)) ⟨_, _, (hY).1, rfl, rfl⟩ (by decide) ⟨Nat.zero_le _, Nat.zero_le _⟩ (Nat.le_of_ble_eq_true rfl) (fun r119 M119 h119 => ?_)
    obtain ⟨hr119, hm119⟩ := h119
    subst hr119
    obtain rfl := hm119.symm
    refine G.iload_n X 123 dX6_isLit_122 rfl rfl ?_
    refine G.iadd X 124 dX6_isLit_123 rfl ?_
    refine G.vV3 (d := 0) X ml_X6_67 yv_X6_toSite 127 dX6_isLit_124 rfl (c_X6_toSite l D Bs _ kd rf _ y (j) 7 _ hY (by omega) (by decide)) ⟨_, _, (hY).1, rfl, rfl⟩ (by decide) ⟨Nat.zero_le _, Nat.zero_le _⟩ (Nat.le_of_ble_eq_true rfl) (fun M124 h124 => ?_)
    subst h124
    try simp only [ms_same, ms_ms]
    refine G.aload_n X 128 dX6_isLit_127 rfl rfl ?_
    refine G.getR X fl_X6_7 131 dX6_isLit_128 rfl (hY).1 (ShY.r0 hY) ?_
    refine G.bipush X 133 dX6_isLit_131 rfl (by decide) ?_
    refine G.dup2 X 134 dX6_isLit_133 rfl rfl rfl ?_
    refine G.iald X (i := 10) 135 dX6_isLit_134 rfl ((ShY.a0 hY)).1 (((ShY.a0 hY)).2 _) rfl (by omega) (by decide) ?_
    refine G.iload_n X 136 dX6_isLit_135 rfl rfl ?_
    refine G.iadd X 137 dX6_isLit_136 rfl ?_
    refine G.iast X (i := 10) 138 dX6_isLit_137 rfl ((ShY.a0 hY)).1 (((ShY.a0 hY)).2 _) rfl (by omega) (by decide) ?_
    refine G.aload_n X 139 dX6_isLit_138 rfl rfl ?_
    refine G.getR X fl_X6_7 142 dX6_isLit_139 rfl (hY).1 (ShY.r0 hY) ?_
    refine G.bipush X 144 dX6_isLit_142 rfl (by decide) ?_
    refine G.dup2 X 145 dX6_isLit_144 rfl rfl rfl ?_
    refine G.iald X (i := 8) 146 dX6_isLit_145 rfl ((ShY.a0 hY)).1 (((ShY.a0 hY)).2 _) rfl (by omega) (by decide) ?_
    refine G.iconst X 147 dX6_isLit_146 rfl ?_
    refine G.iadd X 148 dX6_isLit_147 rfl ?_
    refine G.iast X (i := 8) 149 dX6_isLit_148 rfl ((ShY.a0 hY)).1 (((ShY.a0 hY)).2 _) rfl (by omega) (by decide) ?_
    refine G.vret X dX6_isLit_149 ⟨Nat.le_refl _, Nat.le_refl _⟩ ⟨rfl, rfl, rfl, rfl, ?_⟩
    simp only [mu, ms_same, ms_ms]
    refine congrArg (ms M (y + 1)) (litR_alt rfl ?_ ?_ ?_ ?_ ?_ ?_ ?_)
    · (first | rfl | (simp only [fS, fC, fu_at, if_true]; repeat (first | rw [if_neg (by omega)] | rw [if_pos (by omega)])))
    · first | exact (bi_t (by omega)).symm | exact (bi_f (by omega)).symm
    · (first | rfl | (simp only [fS, fC, fu_at, if_true]; repeat (first | rw [if_neg (by omega)] | rw [if_pos (by omega)])))
    · (first | rfl | (simp only [fS, fC, fu_at, if_true]; repeat (first | rw [if_neg (by omega)] | rw [if_pos (by omega)])))
    · (first | rfl | (simp only [fS, fC, fu_at, if_true]; repeat (first | rw [if_neg (by omega)] | rw [if_pos (by omega)])))
    · (first | rfl | (simp only [fS, fC, fu_at, if_true]; repeat (first | rw [if_neg (by omega)] | rw [if_pos (by omega)])))
    · (first | rfl | (simp only [fS, fC, fu_at, if_true]; repeat (first | rw [if_neg (by omega)] | rw [if_pos (by omega)])))
set_option maxHeartbeats 1000000 in
set_option maxRecDepth 100000 in
theorem c_X6_darkest (l : Launch) (D : xD) (Bs sz : Nat) (kd : xKd) (rf : xRf) (M : xM) (y : Nat) (hY : ShY kd rf y) (hV : Vk (M (y + 1))) (hV0 : Vk (M (y + 4))) (hn : nC (M (y + 1)) = nC (M (y + 4))) : CtI l D Bs yX6_darkest cX6_darkest 5 (some .int) 1 [.ref y] sz kd rf M (fun q M' => q = darkB (M (y + 1)) (M (y + 4)) (nC (M (y + 1))) ∧ M' = M) := by
  refine Ctr.of (yv_X6_darkest.1.2.2.2.2) (List.forall_mem_cons.mpr ⟨rfl, fun _ h => absurd h List.not_mem_nil⟩) (Nat.le_of_ble_eq_true rfl) [some (.ref y), none, none, none, none] rfl ?_
  intro p e s m args below meth c X hin
  obtain ⟨n6, n6b⟩ := hV.n6
  obtain ⟨n7, n7b⟩ := hV.n7
  obtain ⟨m7, m7b⟩ := hV0.n7
  have L7 : ∀ (k : Nat) (i : Nat) (q t : Int), i + k = nC (M (y + 1)) → q = darkB (M (y + 1)) (M (y + 4)) i → t = darkM (M (y + 1)) (M (y + 4)) i → 0 ≤ t ∧ t ≤ 40000 → G p l e (rmd 1) s m args below meth c D Bs 5 0 0 (MQ below (xQ D Bs (pI sz kd rf (fun q M' => q = darkB (M (y + 1)) (M (y + 4)) (nC (M (y + 1))) ∧ M' = M))) args s 0 0 (fun q => Bs ≤ q)) sz kd rf (M) 7 [some (.ref y), some (vi q), some (vi t), some (vi (i : Int)), none] [] := by
    intro k
    induction k with
    | zero =>
      intro i q t hik hq ht htr
      obtain rfl : i = nC (M (y + 1)) := by omega
      refine G.iload_n X 8 dX6_darkest_7 rfl rfl ?_
      refine G.aload_n X 9 dX6_darkest_8 rfl rfl ?_
      refine G.getR X fl_X6_7 12 dX6_darkest_9 rfl (hY).1 (ShY.r0 hY) ?_
      refine G.bipush X 14 dX6_darkest_12 rfl (by decide) ?_
      refine G.iald X (i := 7) 15 dX6_darkest_14 rfl ((ShY.a0 hY)).1 (((ShY.a0 hY)).2 _) rfl (by omega) (by decide) ?_
      refine G.icmp_ge X 74 18 dX6_darkest_15 (by decide) rfl (by omega) (by omega) (fun hc15 => ?_) (fun hc15 => ?_)
      · refine G.iload_n X 75 dX6_darkest_74 rfl rfl ?_
        refine G.iret X dX6_darkest_75 ⟨Nat.le_refl _, Nat.le_refl _⟩ ⟨rfl, rfl, rfl, _, rfl, ?_⟩
        exact ⟨hq, rfl⟩
      · exfalso; omega
    | succ k ih =>
      intro i q t hik hq ht htr
      obtain ⟨-, -, -, -, -, u6, -⟩ := hV.2.2 (i) (by omega)
      obtain ⟨-, -, -, -, -, v6, -⟩ := hV0.2.2 (i) (by omega)
      refine G.iload_n X 8 dX6_darkest_7 rfl rfl ?_
      refine G.aload_n X 9 dX6_darkest_8 rfl rfl ?_
      refine G.getR X fl_X6_7 12 dX6_darkest_9 rfl (hY).1 (ShY.r0 hY) ?_
      refine G.bipush X 14 dX6_darkest_12 rfl (by decide) ?_
      refine G.iald X (i := 7) 15 dX6_darkest_14 rfl ((ShY.a0 hY)).1 (((ShY.a0 hY)).2 _) rfl (by omega) (by decide) ?_
      refine G.icmp_ge X 74 18 dX6_darkest_15 (by decide) rfl (by omega) (by omega) (fun hc15 => ?_) (fun hc15 => ?_)
      · exfalso; omega
      · refine G.aload_n X 19 dX6_darkest_18 rfl rfl ?_
        refine G.iload_n X 20 dX6_darkest_19 rfl rfl ?_
        refine G.bipush X 22 dX6_darkest_20 rfl (by decide) ?_
        refine G.vI2 (d := 0) X ml_X6_78 yv_X6_ofSite 25 dX6_darkest_22 rfl (c_X6_ofSite l D Bs _ kd rf _ y (i) 6 hY (by omega) (by decide)) ⟨_, _, (hY).1, rfl, rfl⟩ (by decide) ⟨Nat.zero_le _, Nat.zero_le _⟩ (Nat.le_of_ble_eq_true rfl) (fun r22 M22 h22 => ?_)
        obtain ⟨hr22, hm22⟩ := h22
        subst hr22
        obtain rfl := hm22.symm
        refine G.aload_n X 26 dX6_darkest_25 rfl rfl ?_
        refine G.getR X fl_X6_19 29 dX6_darkest_26 rfl (hY).1 (ShY.r5 hY) ?_
        refine G.bipush X 31 dX6_darkest_29 rfl (by decide) ?_
        refine G.bipush X 33 dX6_darkest_31 rfl (by decide) ?_
        refine G.iload_n X 34 dX6_darkest_33 rfl rfl ?_
        refine G.imul X 35 dX6_darkest_34 rfl ?_
        refine G.iadd X 36 dX6_darkest_35 rfl ?_
        refine G.bipush X 38 dX6_darkest_36 rfl (by decide) ?_
        refine G.iadd X 39 dX6_darkest_38 rfl ?_
        refine G.iald X (i := (116 + 10 * i + 6)) 40 dX6_darkest_39 rfl ((ShY.a5 hY)).1 (((ShY.a5 hY)).2 _) (by omega) (by omega) (by decide) ?_
        rw [show M (y + 4) (116 + 10 * i + 6) = fC (M (y + 4)) i 6 from rfl]
        refine G.isub X 41 dX6_darkest_40 rfl ?_
        refine G.istore (ls' := [_, _, _, _, _]) X 43 dX6_darkest_41 rfl (by decide) rfl ?_
        refine G.iload X 45 dX6_darkest_43 rfl rfl ?_
        refine G.iload_n X 46 dX6_darkest_45 rfl rfl ?_
        refine G.icmp_le X 53 49 dX6_darkest_46 (by decide) rfl (by omega) (by omega) (fun hc46 => ?_) (fun hc46 => ?_)
        · refine G.iload_n X 54 dX6_darkest_53 rfl rfl ?_
          refine G.istore_n (ls' := [_, _, _, _, _]) X 55 dX6_darkest_54 rfl (by decide) rfl ?_
          refine G.iload X 57 dX6_darkest_55 rfl rfl ?_
          refine G.iload_n X 58 dX6_darkest_57 rfl rfl ?_
          refine G.icmp_le X 66 61 dX6_darkest_58 (by decide) rfl (by omega) (by omega) (fun hc58 => ?_) (fun hc58 => ?_)
          · refine G.iload_n X 67 dX6_darkest_66 rfl rfl ?_
            refine G.istore_n (ls' := [_, _, _, _, _]) X 68 dX6_darkest_67 rfl (by decide) rfl ?_
            refine G.iinc (ls' := [_, _, _, _, _]) X 71 dX6_darkest_68 rfl rfl (by decide) rfl ?_
            refine G.goto X 7 dX6_darkest_71 (by decide) ?_
            refine G.drop 4 ?_
            refine ih (i + 1) _ _ (by omega) ?_ ?_ (by omega)
            · rw [darkB_s]
              first
                | (rw [if_pos (by omega)]; done)
                | (rw [if_neg (by omega)]; exact hq)
            · rw [darkM_s]
              first
                | (rw [if_pos (by omega)]; done)
                | (rw [if_neg (by omega)]; exact ht)
          · refine G.iload X 63 dX6_darkest_61 rfl rfl ?_
            refine G.goto X 67 dX6_darkest_63 (by decide) ?_
            refine G.istore_n (ls' := [_, _, _, _, _]) X 68 dX6_darkest_67 rfl (by decide) rfl ?_
            refine G.iinc (ls' := [_, _, _, _, _]) X 71 dX6_darkest_68 rfl rfl (by decide) rfl ?_
            refine G.goto X 7 dX6_darkest_71 (by decide) ?_
            refine G.drop 4 ?_
            refine ih (i + 1) _ _ (by omega) ?_ ?_ (by omega)
            · rw [darkB_s]
              first
                | (rw [if_pos (by omega)]; done)
                | (rw [if_neg (by omega)]; exact hq)
            · rw [darkM_s]
              first
                | (rw [if_pos (by omega)]; done)
                | (rw [if_neg (by omega)]; exact ht)
        · refine G.iload_n X 50 dX6_darkest_49 rfl rfl ?_
          refine G.goto X 54 dX6_darkest_50 (by decide) ?_
          refine G.istore_n (ls' := [_, _, _, _, _]) X 55 dX6_darkest_54 rfl (by decide) rfl ?_
          refine G.iload X 57 dX6_darkest_55 rfl rfl ?_
          refine G.iload_n X 58 dX6_darkest_57 rfl rfl ?_
          refine G.icmp_le X 66 61 dX6_darkest_58 (by decide) rfl (by omega) (by omega) (fun hc58 => ?_) (fun hc58 => ?_)
          · refine G.iload_n X 67 dX6_darkest_66 rfl rfl ?_
            refine G.istore_n (ls' := [_, _, _, _, _]) X 68 dX6_darkest_67 rfl (by decide) rfl ?_
            refine G.iinc (ls' := [_, _, _, _, _]) X 71 dX6_darkest_68 rfl rfl (by decide) rfl ?_
            refine G.goto X 7 dX6_darkest_71 (by decide) ?_
            refine G.drop 4 ?_
            refine ih (i + 1) _ _ (by omega) ?_ ?_ (by omega)
            · rw [darkB_s]
              first
                | (rw [if_pos (by omega)]; done)
                | (rw [if_neg (by omega)]; exact hq)
            · rw [darkM_s]
              first
                | (rw [if_pos (by omega)]; done)
                | (rw [if_neg (by omega)]; exact ht)
          · refine G.iload X 63 dX6_darkest_61 rfl rfl ?_
            refine G.goto X 67 dX6_darkest_63 (by decide) ?_
            refine G.istore_n (ls' := [_, _, _, _, _]) X 68 dX6_darkest_67 rfl (by decide) rfl ?_
            refine G.iinc (ls' := [_, _, _, _, _]) X 71 dX6_darkest_68 rfl rfl (by decide) rfl ?_
            refine G.goto X 7 dX6_darkest_71 (by decide) ?_
            refine G.drop 4 ?_
            refine ih (i + 1) _ _ (by omega) ?_ ?_ (by omega)
            · rw [darkB_s]
              first
                | (rw [if_pos (by omega)]; done)
                | (rw [if_neg (by omega)]; exact hq)
            · rw [darkM_s]
              first
                | (rw [if_pos (by omega)]; done)
                | (rw [if_neg (by omega)]; exact ht)
  refine G.bipush X 2 dX6_darkest_0 rfl (by decide) ?_
  refine G.istore_n (ls' := [_, _, _, _, _]) X 3 dX6_darkest_2 rfl (by decide) rfl ?_
  refine G.iconst X 4 dX6_darkest_3 rfl ?_
  refine G.istore_n (ls' := [_, _, _, _, _]) X 5 dX6_darkest_4 rfl (by decide) rfl ?_
  refine G.iconst X 6 dX6_darkest_5 rfl ?_
  refine G.istore_n (ls' := [_, _, _, _, _]) X 7 dX6_darkest_6 rfl (by decide) rfl ?_
  exact L7 (nC (M (y + 1))) 0 (-5) 0 (by omega) rfl rfl (by omega)
