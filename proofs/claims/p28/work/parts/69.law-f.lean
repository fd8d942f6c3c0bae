theorem pass_b {r : xR} {x : Int} (hx : ¬ (1 ≤ x ∧ x ≤ 24)) : passF x r = (-2, none) := if_pos hx
theorem pass_f {r : xR} {x : Int} (hx : 1 ≤ x ∧ x ≤ 24) (h0 : 999 < r 0 + x) : passF x r = (-4, none) := by
  unfold passF
  rw [if_neg (by omega), if_pos h0]
theorem pass_s {r r1 : xR} {x : Int} {n : Nat} (hn : x = (n : Int)) (hx : 1 ≤ x ∧ x ≤ 24) (h0 : r 0 + x ≤ 999) (hr : r1 = hoursR r n) : passF x r = (r1 8 - r 8, some r1) := by
  subst hn
  subst hr
  unfold passF
  rw [if_neg (by omega), if_neg (by omega), Int.toNat_natCast]
theorem fore_f {r : xR} {x w : Int} (hx : 1 ≤ x ∧ x ≤ 24) (hw : 0 ≤ w ∧ w ≤ 3) (h0 : 999 < r 0 + x) : foreF x w r = -4 := by
  unfold foreF
  rw [if_neg (by omega), if_pos h0]
theorem fore_s0 {r r1 : xR} {x : Int} {n : Nat} (hn : x = (n : Int)) (hx : 1 ≤ x ∧ x ≤ 24) (h0 : r 0 + x ≤ 999) (hr : r1 = hoursR r n) : foreF x 0 r = r1 8 - r 8 := by
  subst hn
  subst hr
  exact fore_w0 (by omega) h0
theorem fore_s1 {r r1 : xR} {x : Int} {n : Nat} (hn : x = (n : Int)) (hx : 1 ≤ x ∧ x ≤ 24) (h0 : r 0 + x ≤ 999) (hr : r1 = hoursR r n) : foreF x 1 r = r1 9 - r 9 := by
  subst hn
  subst hr
  exact fore_w1 (by omega) h0
theorem fore_s2 {r r1 : xR} {x : Int} {n : Nat} (hn : x = (n : Int)) (hx : 1 ≤ x ∧ x ≤ 24) (h0 : r 0 + x ≤ 999) (hr : r1 = hoursR r n) : foreF x 2 r = r1 4 - r 4 := by
  subst hn
  subst hr
  exact fore_w2 (by omega) h0
set_option maxHeartbeats 2000000 in
set_option maxRecDepth 100000 in
theorem c_L_passes (l : Launch) (D : xD) (Bs sz : Nat) (kd : xKd) (rf : xRf) (M : xM) (a : Nat) (r : xR) (h : List xR) (sn : Option xR) (hO : Ob kd rf a M r h sn) (x y : Nat) (hx : 1 ≤ x ∧ x ≤ 5) (hy : 1 ≤ y ∧ y ≤ 5) : CtI l D Bs yL_passes cL_passes 11 (some .boolean) 8 [.ref a, vi (x : Int), vi (y : Int)] sz kd rf M (fun q M' => q = 1 ∧ ∃ (r1 : xR) (h1 : List xR) (sn1 : Option xR), Ob kd rf a M' r1 h1 sn1) := by
  refine Ctr.of (ys_L_passes.1.2.2.2.2) (List.forall_mem_cons.mpr ⟨rfl, List.forall_mem_cons.mpr ⟨rfl, List.forall_mem_cons.mpr ⟨rfl, fun _ h => absurd h List.not_mem_nil⟩⟩⟩) (Nat.le_of_ble_eq_true rfl) [some (.ref a), some (vi (x : Int)), some (vi (y : Int)), none, none, none, none, none, none, none, none] rfl ?_
  intro p e s m args below meth c X hin
  obtain ⟨hX, hI, hC⟩ := id hO
  have hV := hI.1.1.1
  have hJ := hI.1.2
  obtain ⟨n6, n6b⟩ := hV.n6
  obtain ⟨n7, n7b⟩ := hV.n7
  have hz0 := hV.1
  by_cases hov : r 0 + (x : Int) + (y : Int) ≤ 999
  · obtain ⟨r1, hr1⟩ : ∃ r1, r1 = hoursR r (x + y) := ⟨_, rfl⟩
    obtain ⟨r2, hr2⟩ : ∃ r2, r2 = hoursR r x := ⟨_, rfl⟩
    have hJ1 : Jr r1 := by
      rw [hr1]
      exact hI.1.hours (x + y) (by omega)
    have hJ2 : Jr r2 := by
      rw [hr2]
      exact hI.1.hours x (by omega)
    have q0 : r1 0 = r 0 + (x : Int) + (y : Int) := by
      rw [hr1, (hoursR_n r (x + y)).2.2.1]
      omega
    have q2 : r2 0 = r 0 + (x : Int) := by
      rw [hr2, (hoursR_n r x).2.2.1]
    have h12 : r1 = hoursR r2 y := by
      rw [hr1, hr2]
      exact hoursR_add r x y
    refine G.aload_n X 1 dL_passes_0 rfl rfl ?_
    refine G.iconst X 2 dL_passes_1 rfl ?_
    refine GS.count X hO ml_L_13 5 dL_passes_2 rfl (cnt_0) (by decide) (by decide) ⟨Nat.zero_le _, Nat.zero_le _⟩ (Nat.le_of_ble_eq_true rfl) (fun M hO => ?_)
    refine G.iload_n X 6 dL_passes_5 rfl rfl ?_
    refine G.iadd X 7 dL_passes_6 rfl ?_
    refine G.iload_n X 8 dL_passes_7 rfl rfl ?_
    refine G.iadd X 9 dL_passes_8 rfl ?_
    refine G.sipush X 12 dL_passes_9 rfl (by decide) ?_
    refine G.icmp_le X 46 15 dL_passes_12 (by decide) rfl (by omega) (by omega) (fun hc12 => ?_) (fun hc12 => by exfalso; omega)
    refine G.aload_n X 47 dL_passes_46 rfl rfl ?_
    refine GS.keep X hO ml_L_90 50 dL_passes_47 rfl (by decide) ⟨Nat.zero_le _, Nat.zero_le _⟩ (Nat.le_of_ble_eq_true rfl) (fun M hO => ?_)
    refine G.istore_n (ls' := [_, _, _, _, _, _, _, _, _, _, _]) X 51 dL_passes_50 rfl (by decide) rfl ?_
    refine G.aload_n X 52 dL_passes_51 rfl rfl ?_
    refine G.iload_n X 53 dL_passes_52 rfl rfl ?_
    refine G.iload_n X 54 dL_passes_53 rfl rfl ?_
    refine G.iadd X 55 dL_passes_54 rfl ?_
    refine G.iconst X 56 dL_passes_55 rfl ?_
    refine GS.forecast X hO ml_L_29 59 dL_passes_56 rfl (fore_s0 (n := x + y) (by omega) (by omega) (by omega) hr1) (by omega) (by decide) (by decide) ⟨Nat.zero_le _, Nat.zero_le _⟩ (Nat.le_of_ble_eq_true rfl) (fun M hO => ?_)
    refine G.istore (ls' := [_, _, _, _, _, _, _, _, _, _, _]) X 61 dL_passes_59 rfl (by decide) rfl ?_
    refine G.aload_n X 62 dL_passes_61 rfl rfl ?_
    refine G.iload_n X 63 dL_passes_62 rfl rfl ?_
    refine G.iload_n X 64 dL_passes_63 rfl rfl ?_
    refine G.iadd X 65 dL_passes_64 rfl ?_
    refine G.iconst X 66 dL_passes_65 rfl ?_
    refine GS.forecast X hO ml_L_29 69 dL_passes_66 rfl (fore_s1 (n := x + y) (by omega) (by omega) (by omega) hr1) (by omega) (by decide) (by decide) ⟨Nat.zero_le _, Nat.zero_le _⟩ (Nat.le_of_ble_eq_true rfl) (fun M hO => ?_)
    refine G.aload_n X 70 dL_passes_69 rfl rfl ?_
    refine G.bipush X 72 dL_passes_70 rfl (by decide) ?_
    refine GS.count X hO ml_L_13 75 dL_passes_72 rfl (cnt_12) (by decide) (by decide) ⟨Nat.zero_le _, Nat.zero_le _⟩ (Nat.le_of_ble_eq_true rfl) (fun M hO => ?_)
    refine G.iadd X 76 dL_passes_75 rfl ?_
    refine G.istore (ls' := [_, _, _, _, _, _, _, _, _, _, _]) X 78 dL_passes_76 rfl (by decide) rfl ?_
    refine G.aload_n X 79 dL_passes_78 rfl rfl ?_
    refine G.iload_n X 80 dL_passes_79 rfl rfl ?_
    refine G.iload_n X 81 dL_passes_80 rfl rfl ?_
    refine G.iadd X 82 dL_passes_81 rfl ?_
    refine G.iconst X 83 dL_passes_82 rfl ?_
    refine GS.forecast X hO ml_L_29 86 dL_passes_83 rfl (fore_s2 (n := x + y) (by omega) (by omega) (by omega) hr1) (by omega) (by decide) (by decide) ⟨Nat.zero_le _, Nat.zero_le _⟩ (Nat.le_of_ble_eq_true rfl) (fun M hO => ?_)
    refine G.aload_n X 87 dL_passes_86 rfl rfl ?_
    refine G.iconst X 88 dL_passes_87 rfl ?_
    refine GS.count X hO ml_L_13 91 dL_passes_88 rfl (cnt_5) (by decide) (by decide) ⟨Nat.zero_le _, Nat.zero_le _⟩ (Nat.le_of_ble_eq_true rfl) (fun M hO => ?_)
    refine G.iadd X 92 dL_passes_91 rfl ?_
    refine G.istore (ls' := [_, _, _, _, _, _, _, _, _, _, _]) X 94 dL_passes_92 rfl (by decide) rfl ?_
    refine G.aload_n X 95 dL_passes_94 rfl rfl ?_
    refine G.iload_n X 96 dL_passes_95 rfl rfl ?_
    refine G.iload_n X 97 dL_passes_96 rfl rfl ?_
    refine G.iadd X 98 dL_passes_97 rfl ?_
    refine GS.passS X hO ml_L_87 101 dL_passes_98 rfl (pass_s (n := x + y) (by omega) (by omega) (by omega) hr1) (hJ1) (by omega) (by decide) ⟨Nat.zero_le _, Nat.zero_le _⟩ (Nat.le_of_ble_eq_true rfl) (fun M hO => ?_)
    refine G.istore (ls' := [_, _, _, _, _, _, _, _, _, _, _]) X 103 dL_passes_101 rfl (by decide) rfl ?_
    refine G.aload_n X 104 dL_passes_103 rfl rfl ?_
    refine G.sJ1 (d := 7) X ml_L_93 ys_L_digest 107 dL_passes_104 rfl (c_L_digest l D Bs sz kd rf M a _ _ _ hO) (by decide) ⟨Nat.zero_le _, Nat.zero_le _⟩ (Nat.le_of_ble_eq_true rfl) (fun x104 M h104 => ?_)
    obtain ⟨e104, hO⟩ := h104
    rw [e104]
    refine G.lstore (ls' := [_, _, _, _, _, _, _, _, _, _, _]) X 109 dL_passes_107 rfl (by decide) rfl rfl ?_
    refine G.iload X 111 dL_passes_109 rfl rfl ?_
    refine G.iload X 113 dL_passes_111 rfl rfl ?_
    refine G.neF X 116 dL_passes_113 169 (by decide) rfl (rfl) ?_
    refine G.aload_n X 117 dL_passes_116 rfl rfl ?_
    refine G.bipush X 119 dL_passes_117 rfl (by decide) ?_
    refine GS.count X hO ml_L_13 122 dL_passes_119 rfl (cnt_12) (by decide) (by decide) ⟨Nat.zero_le _, Nat.zero_le _⟩ (Nat.le_of_ble_eq_true rfl) (fun M hO => ?_)
    refine G.iload X 124 dL_passes_122 rfl rfl ?_
    refine G.neF X 127 dL_passes_124 169 (by decide) rfl (by omega) ?_
    refine G.aload_n X 128 dL_passes_127 rfl rfl ?_
    refine G.iconst X 129 dL_passes_128 rfl ?_
    refine GS.count X hO ml_L_13 132 dL_passes_129 rfl (cnt_5) (by decide) (by decide) ⟨Nat.zero_le _, Nat.zero_le _⟩ (Nat.le_of_ble_eq_true rfl) (fun M hO => ?_)
    refine G.iload X 134 dL_passes_132 rfl rfl ?_
    refine G.neF X 137 dL_passes_134 169 (by decide) rfl (by omega) ?_
    refine G.aload_n X 138 dL_passes_137 rfl rfl ?_
    refine G.iconst X 139 dL_passes_138 rfl ?_
    refine GS.count X hO ml_L_13 142 dL_passes_139 rfl (cnt_0) (by decide) (by decide) ⟨Nat.zero_le _, Nat.zero_le _⟩ (Nat.le_of_ble_eq_true rfl) (fun M hO => ?_)
    refine G.iload_n X 143 dL_passes_142 rfl rfl ?_
    refine G.iload_n X 144 dL_passes_143 rfl rfl ?_
    refine G.iadd X 145 dL_passes_144 rfl ?_
    refine G.iload_n X 146 dL_passes_145 rfl rfl ?_
    refine G.iadd X 147 dL_passes_146 rfl ?_
    refine G.neF X 150 dL_passes_147 169 (by decide) rfl (q0) ?_
    refine G.aload_n X 151 dL_passes_150 rfl rfl ?_
    refine GS.restore1 X hO ml_L_97 154 dL_passes_151 rfl (by decide) ⟨Nat.zero_le _, Nat.zero_le _⟩ (Nat.le_of_ble_eq_true rfl) (fun M hO => ?_)
    refine G.iload_n X 155 dL_passes_154 rfl rfl ?_
    refine G.neF X 158 dL_passes_155 169 (by decide) rfl (rfl) ?_
    refine G.aload_n X 159 dL_passes_158 rfl rfl ?_
    refine G.bipush X 161 dL_passes_159 rfl (by decide) ?_
    refine GS.passN X hO ml_L_87 164 dL_passes_161 rfl (pass_b (by omega)) (by decide) (by decide) ⟨Nat.zero_le _, Nat.zero_le _⟩ (Nat.le_of_ble_eq_true rfl) (fun M hO => ?_)
    refine G.bipush X 166 dL_passes_164 rfl (by decide) ?_
    refine G.icmp_eq X 171 169 dL_passes_166 (by decide) rfl (by omega) (by omega) (fun hc166 => ?_) (fun hc166 => by exact absurd hc166 (by decide))
    refine G.aload_n X 172 dL_passes_171 rfl rfl ?_
    refine G.iload_n X 173 dL_passes_172 rfl rfl ?_
    refine GS.passS X hO ml_L_87 176 dL_passes_173 rfl (pass_s (n := x) rfl (by omega) (by omega) hr2) (hJ2) (by omega) (by decide) ⟨Nat.zero_le _, Nat.zero_le _⟩ (Nat.le_of_ble_eq_true rfl) (fun M hO => ?_)
    refine G.istore (ls' := [_, _, _, _, _, _, _, _, _, _, _]) X 178 dL_passes_176 rfl (by decide) rfl ?_
    refine G.iload X 180 dL_passes_178 rfl rfl ?_
    refine G.aload_n X 181 dL_passes_180 rfl rfl ?_
    refine G.iload_n X 182 dL_passes_181 rfl rfl ?_
    refine GS.passS X hO ml_L_87 185 dL_passes_182 rfl (pass_s (n := y) rfl (by omega) (by omega) h12) (hJ1) (by omega) (by decide) ⟨Nat.zero_le _, Nat.zero_le _⟩ (Nat.le_of_ble_eq_true rfl) (fun M hO => ?_)
    refine G.iadd X 186 dL_passes_185 rfl ?_
    refine G.iload X 188 dL_passes_186 rfl rfl ?_
    refine G.neF X 191 dL_passes_188 205 (by decide) rfl (by omega) ?_
    refine G.aload_n X 192 dL_passes_191 rfl rfl ?_
    refine G.sJ1 (d := 7) X ml_L_93 ys_L_digest 195 dL_passes_192 rfl (c_L_digest l D Bs sz kd rf M a _ _ _ hO) (by decide) ⟨Nat.zero_le _, Nat.zero_le _⟩ (Nat.le_of_ble_eq_true rfl) (fun x192 M h192 => ?_)
    obtain ⟨e192, hO⟩ := h192
    rw [e192]
    refine G.lload X 197 dL_passes_195 rfl rfl ?_
    refine G.lcmp X 198 dL_passes_197 rfl (fun z197 hz197 hy197 => ?_)
    have hz := hy197 rfl
    refine G.if_ne X 205 201 dL_passes_198 (by decide) rfl (by omega) (fun hc198 => by exfalso; omega) (fun hc198 => ?_)
    refine G.iconst X 202 dL_passes_201 rfl ?_
    refine G.goto X 206 dL_passes_202 (by decide) ?_
    refine G.zret X dL_passes_206 ⟨Nat.le_refl _, Nat.le_refl _⟩ (Or.inr rfl) ⟨rfl, rfl, rfl, _, rfl, ?_⟩
    exact ⟨rfl, _, _, _, hO⟩
  · skip
    refine G.aload_n X 1 dL_passes_0 rfl rfl ?_
    refine G.iconst X 2 dL_passes_1 rfl ?_
    refine GS.count X hO ml_L_13 5 dL_passes_2 rfl (cnt_0) (by decide) (by decide) ⟨Nat.zero_le _, Nat.zero_le _⟩ (Nat.le_of_ble_eq_true rfl) (fun M hO => ?_)
    refine G.iload_n X 6 dL_passes_5 rfl rfl ?_
    refine G.iadd X 7 dL_passes_6 rfl ?_
    refine G.iload_n X 8 dL_passes_7 rfl rfl ?_
    refine G.iadd X 9 dL_passes_8 rfl ?_
    refine G.sipush X 12 dL_passes_9 rfl (by decide) ?_
    refine G.icmp_le X 46 15 dL_passes_12 (by decide) rfl (by omega) (by omega) (fun hc12 => by exfalso; omega) (fun hc12 => ?_)
    refine G.aload_n X 16 dL_passes_15 rfl rfl ?_
    refine G.iload_n X 17 dL_passes_16 rfl rfl ?_
    refine G.iload_n X 18 dL_passes_17 rfl rfl ?_
    refine G.iadd X 19 dL_passes_18 rfl ?_
    refine GS.passN X hO ml_L_87 22 dL_passes_19 rfl (pass_f (by omega) (by omega)) (by omega) (by decide) ⟨Nat.zero_le _, Nat.zero_le _⟩ (Nat.le_of_ble_eq_true rfl) (fun M hO => ?_)
    refine G.bipush X 24 dL_passes_22 rfl (by decide) ?_
    refine G.icmp_ne X 44 27 dL_passes_24 (by decide) rfl (by omega) (by omega) (fun hc24 => by exact absurd hc24 (by decide)) (fun hc24 => ?_)
    refine G.aload_n X 28 dL_passes_27 rfl rfl ?_
    refine G.iload_n X 29 dL_passes_28 rfl rfl ?_
    refine G.iload_n X 30 dL_passes_29 rfl rfl ?_
    refine G.iadd X 31 dL_passes_30 rfl ?_
    refine G.iconst X 32 dL_passes_31 rfl ?_
    refine GS.forecast X hO ml_L_29 35 dL_passes_32 rfl (fore_f (by omega) (by omega) (by omega)) (by omega) (by decide) (by decide) ⟨Nat.zero_le _, Nat.zero_le _⟩ (Nat.le_of_ble_eq_true rfl) (fun M hO => ?_)
    refine G.bipush X 37 dL_passes_35 rfl (by decide) ?_
    refine G.icmp_ne X 44 40 dL_passes_37 (by decide) rfl (by omega) (by omega) (fun hc37 => by exact absurd hc37 (by decide)) (fun hc37 => ?_)
    refine G.iconst X 41 dL_passes_40 rfl ?_
    refine G.goto X 45 dL_passes_41 (by decide) ?_
    refine G.zret X dL_passes_45 ⟨Nat.le_refl _, Nat.le_refl _⟩ (Or.inr rfl) ⟨rfl, rfl, rfl, _, rfl, ?_⟩
    exact ⟨rfl, _, _, _, hO⟩
