def TxM (M : xM) (y : Nat) (t : List Int) : Prop := (M y 7 = (t.length : Int) ∧ t.length ≤ 60) ∧ ∀ j, j < t.length → M (y + 6) j = t.getD j 0
set_option maxHeartbeats 1000000 in
set_option maxRecDepth 100000 in
theorem c_X6_takes (l : Launch) (D : xD) (Bs sz : Nat) (kd : xKd) (rf : xRf) (M : xM) (y u : Nat) (x : Int) (t : List Int) (hY : ShY kd rf y) (ht : TxM M y t) (hp : M y 9 = (u : Int)) (hx : IR x) (hpr : u ≤ 100) : CtI l D Bs yX6_takes cX6_takes 2 (some .boolean) 0 [.ref y, vi x] sz kd rf M (fun q M' => sg t u x ∧ q = 1 ∧ M' = mu M y 9 ((u : Int) + 1) ∨ ¬ sg t u x ∧ q = 0 ∧ M' = M) := by
  refine Ctr.of (yv_X6_takes.1.2.2.2.2) (List.forall_mem_cons.mpr ⟨rfl, List.forall_mem_cons.mpr ⟨rfl, fun _ h => absurd h List.not_mem_nil⟩⟩) (Nat.le_of_ble_eq_true rfl) [some (.ref y), some (vi x)] rfl ?_
  intro p e s m args below meth c X hin
  obtain ⟨⟨t1, t2⟩, t3⟩ := id ht
  refine G.okd (fun hok => ?_)
  have hxr := hx
  have hch : ∀ j, j < t.length → 0 ≤ t.getD j 0 ∧ t.getD j 0 < 65536 := fun j hj => by
    rw [← t3 j hj]
    exact hok.2 (y + 6) 60 j (ShY.a8 hY).1
  refine G.aload_n X 1 dX6_takes_0 rfl rfl ?_
  refine G.getI X fl_X6_143 4 dX6_takes_1 rfl (hY).1 ((hY).2.1 9 (by decide)) ?_
  refine G.aload_n X 5 dX6_takes_4 rfl rfl ?_
  refine G.getI X fl_X6_140 8 dX6_takes_5 rfl (hY).1 ((hY).2.1 7 (by decide)) ?_
  refine G.icmp_ge X 24 11 dX6_takes_8 (by decide) rfl (by omega) (by omega) (fun hc8 => ?_) (fun hc8 => ?_)
  · refine G.iconst X 25 dX6_takes_24 rfl ?_
    refine G.zret X dX6_takes_25 ⟨Nat.le_refl _, Nat.le_refl _⟩ (Or.inl rfl) ⟨rfl, rfl, rfl, _, rfl, ?_⟩
    exact Or.inr ⟨by omega, rfl, rfl⟩
  · refine G.aload_n X 12 dX6_takes_11 rfl rfl ?_
    refine G.getR X fl_X6_25 15 dX6_takes_12 rfl (hY).1 (ShY.r8 hY) ?_
    refine G.aload_n X 16 dX6_takes_15 rfl rfl ?_
    refine G.getI X fl_X6_143 19 dX6_takes_16 rfl (hY).1 ((hY).2.1 9 (by decide)) ?_
    rw [hp]
    refine G.cald X 20 dX6_takes_19 rfl ((ShY.a8 hY)).1 (((ShY.a8 hY)).2 _) rfl (by omega) (by decide) ?_
    rw [t3 u (by omega)]
    have hch19 := hch u (by omega)
    refine G.iload_n X 21 dX6_takes_20 rfl rfl ?_
    refine G.icmp_eq X 26 24 dX6_takes_21 (by decide) rfl (by omega) (by omega) (fun hc21 => ?_) (fun hc21 => ?_)
    · refine G.aload_n X 27 dX6_takes_26 rfl rfl ?_
      refine G.dup X 28 dX6_takes_27 rfl rfl ?_
      refine G.getf (v := vi ((u : Int))) X fl_X6_143 31 dX6_takes_28 rfl (hY).1 ((xV_int ((hY).2.1 9 (by decide))).trans (congrArg vi ?_)) ?_
      · exact hp
      refine G.iconst X 32 dX6_takes_31 rfl ?_
      refine G.iadd X 33 dX6_takes_32 rfl ?_
      refine G.putI X fl_X6_143 fi_6_9 rfl 36 dX6_takes_33 rfl (hY).1 ((hY).2.1 9 (by decide)) ?_
      refine G.iconst X 37 dX6_takes_36 rfl ?_
      refine G.zret X dX6_takes_37 ⟨Nat.le_refl _, Nat.le_refl _⟩ (Or.inr rfl) ⟨rfl, rfl, rfl, _, rfl, ?_⟩
      exact Or.inl ⟨by omega, rfl, rfl⟩
    · refine G.iconst X 25 dX6_takes_24 rfl ?_
      refine G.zret X dX6_takes_25 ⟨Nat.le_refl _, Nat.le_refl _⟩ (Or.inl rfl) ⟨rfl, rfl, rfl, _, rfl, ?_⟩
      exact Or.inr ⟨by omega, rfl, rfl⟩
set_option maxHeartbeats 1000000 in
set_option maxRecDepth 100000 in
theorem c_X6_number (l : Launch) (D : xD) (Bs sz : Nat) (kd : xKd) (rf : xRf) (M : xM) (y u dg : Nat) (x : Int) (t : List Int) (hY : ShY kd rf y) (ht : TxM M y t) (hp : M y 9 = (u : Int)) (hx : 0 ≤ x ∧ x ≤ 1) (hdg : 1 ≤ dg ∧ dg ≤ 3) (hpr : u ≤ 90) : CtI l D Bs yX6_number cX6_number 5 (some .int) 1 [.ref y, vi (dg : Int), vi x] sz kd rf M (fun q M' => q = (if (numF t (48 + x) dg u).1 = -1 then -5 else (numF t (48 + x) dg u).1) ∧ M' = mu M y 9 ((numF t (48 + x) dg u).2 : Int)) := by
  refine Ctr.of (yv_X6_number.1.2.2.2.2) (List.forall_mem_cons.mpr ⟨rfl, List.forall_mem_cons.mpr ⟨rfl, List.forall_mem_cons.mpr ⟨rfl, fun _ h => absurd h List.not_mem_nil⟩⟩⟩) (Nat.le_of_ble_eq_true rfl) [some (.ref y), some (vi (dg : Int)), some (vi x), none, none] rfl ?_
  intro p e s m args below meth c X hin
  obtain ⟨⟨t1, t2⟩, t3⟩ := id ht
  refine G.okd (fun hok => ?_)
  have hch : ∀ j, j < t.length → 0 ≤ t.getD j 0 ∧ t.getD j 0 < 65536 := fun j hj => by
    rw [← t3 j hj]
    exact hok.2 (y + 6) 60 j (ShY.a8 hY).1
  have L61 : ∀ (k : Nat) (i : Nat) (q : Nat) (v : Int), i + k = dg → 1 ≤ i → q ≤ u + i → 0 ≤ v → (i = 1 ∧ v ≤ 9 ∨ i = 2 ∧ v ≤ 99 ∨ i = 3 ∧ v ≤ 999) → numL t (if v = 0 then 0 else k) v q = numF t (48 + x) dg u → G p l e (rmd 1) s m args below meth c D Bs 5 0 0 (MQ below (xQ D Bs (pI sz kd rf (fun q M' => q = (if (numF t (48 + x) dg u).1 = -1 then -5 else (numF t (48 + x) dg u).1) ∧ M' = mu M y 9 ((numF t (48 + x) dg u).2 : Int)))) args s 0 0 (fun q => Bs ≤ q)) sz kd rf (mu M y 9 (q : Int)) 61 [some (.ref y), some (vi (dg : Int)), some (vi x), some (vi v), some (vi (i : Int))] [] := by
    intro k
    induction k with
    | zero =>
      intro i q v hik hi1 hq hv0 hv hres
      obtain rfl : i = dg := by omega
      refine G.iload X 63 dX6_number_61 rfl rfl ?_
      refine G.iload_n X 64 dX6_number_63 rfl rfl ?_
      refine G.icmp_ge X 135 67 dX6_number_64 (by decide) rfl (by omega) (by omega) (fun hc64 => ?_) (fun hc64 => ?_)
      · refine G.iload_n X 136 dX6_number_135 rfl rfl ?_
        refine G.iret X dX6_number_136 ⟨Nat.le_refl _, Nat.le_refl _⟩ ⟨rfl, rfl, rfl, _, rfl, ?_⟩
        rw [show (if v = 0 then 0 else 0) = (0 : Nat) by split <;> rfl] at hres
        rw [← hres]
        exact ⟨(if_neg (show ¬ v = -1 by omega)).symm, rfl⟩
      · exfalso; omega
    | succ k ih =>
      intro i q v hik hi1 hq hv0 hv hres
      refine G.iload X 63 dX6_number_61 rfl rfl ?_
      refine G.iload_n X 64 dX6_number_63 rfl rfl ?_
      refine G.icmp_ge X 135 67 dX6_number_64 (by decide) rfl (by omega) (by omega) (fun hc64 => ?_) (fun hc64 => ?_)
      · exfalso; omega
      · refine G.iload_n X 68 dX6_number_67 rfl rfl ?_
        refine G.if_le X 135 71 dX6_number_68 (by decide) rfl (by omega) (fun hc68 => ?_) (fun hc68 => ?_)
        · refine G.iload_n X 136 dX6_number_135 rfl rfl ?_
          refine G.iret X dX6_number_136 ⟨Nat.le_refl _, Nat.le_refl _⟩ ⟨rfl, rfl, rfl, _, rfl, ?_⟩
          first
            | (rw [if_pos (by omega)] at hres
               rw [← hres]
               exact ⟨(if_neg (show ¬ v = -1 by omega)).symm, rfl⟩)
            | (rw [if_neg (by omega), numL_s, if_neg (show ¬ (q < t.length ∧ 48 ≤ t.getD q 0 ∧ t.getD q 0 ≤ 57) by omega)] at hres
               rw [← hres]
               exact ⟨(if_neg (show ¬ v = -1 by omega)).symm, rfl⟩)
        · refine G.aload_n X 72 dX6_number_71 rfl rfl ?_
          refine G.getf (v := vi ((q : Int))) X fl_X6_143 75 dX6_number_72 rfl (hY).1 ((xV_int ((hY).2.1 9 (by decide))).trans (congrArg vi ?_)) ?_
          · exact mu_same
          refine G.aload_n X 76 dX6_number_75 rfl rfl ?_
          refine G.getf (v := vi ((t.length : Int))) X fl_X6_140 79 dX6_number_76 rfl (hY).1 ((xV_int ((hY).2.1 7 (by decide))).trans (congrArg vi ?_)) ?_
          · rw [mu_ne (Or.inr (by decide))]
            exact t1
          refine G.icmp_ge X 135 82 dX6_number_79 (by decide) rfl (by omega) (by omega) (fun hc79 => ?_) (fun hc79 => ?_)
          · refine G.iload_n X 136 dX6_number_135 rfl rfl ?_
            refine G.iret X dX6_number_136 ⟨Nat.le_refl _, Nat.le_refl _⟩ ⟨rfl, rfl, rfl, _, rfl, ?_⟩
            first
              | (rw [if_pos (by omega)] at hres
                 rw [← hres]
                 exact ⟨(if_neg (show ¬ v = -1 by omega)).symm, rfl⟩)
              | (rw [if_neg (by omega), numL_s, if_neg (show ¬ (q < t.length ∧ 48 ≤ t.getD q 0 ∧ t.getD q 0 ≤ 57) by omega)] at hres
                 rw [← hres]
                 exact ⟨(if_neg (show ¬ v = -1 by omega)).symm, rfl⟩)
          · refine G.aload_n X 83 dX6_number_82 rfl rfl ?_
            refine G.getR X fl_X6_25 86 dX6_number_83 rfl (hY).1 (ShY.r8 hY) ?_
            refine G.aload_n X 87 dX6_number_86 rfl rfl ?_
            refine G.getf (v := vi ((q : Int))) X fl_X6_143 90 dX6_number_87 rfl (hY).1 ((xV_int ((hY).2.1 9 (by decide))).trans (congrArg vi ?_)) ?_
            · exact mu_same
            refine G.cald X 91 dX6_number_90 rfl ((ShY.a8 hY)).1 (((ShY.a8 hY)).2 _) rfl (by omega) (by decide) ?_
            rw [show mu M y 9 (q : Int) (y + 6) q = M (y + 6) q from mu_ne (Or.inl (by omega)), t3 q (by omega)]
            have hch90 := hch q (by omega)
            refine G.bipush X 93 dX6_number_91 rfl (by decide) ?_
            refine G.bipush X 95 dX6_number_93 rfl (by decide) ?_
            refine G.sI3 (d := 0) X ml_X6_36 ys_X6_in 98 dX6_number_95 rfl (c_X6_in l D Bs _ kd rf _ _ _ _ (by omega) (by omega) (by omega)) (by decide) ⟨Nat.zero_le _, Nat.zero_le _⟩ (Nat.le_of_ble_eq_true rfl) (fun r95 M95 h95 => ?_)
            obtain ⟨hr95, hm95⟩ := h95
            subst hr95
            obtain rfl := hm95.symm
            refine G.ifb_eq X 135 101 dX6_number_98 (by decide) rfl (fun hc98 => ?_) (fun hc98 => ?_)
            · refine G.iload_n X 136 dX6_number_135 rfl rfl ?_
              refine G.iret X dX6_number_136 ⟨Nat.le_refl _, Nat.le_refl _⟩ ⟨rfl, rfl, rfl, _, rfl, ?_⟩
              first
                | (rw [if_pos (by omega)] at hres
                   rw [← hres]
                   exact ⟨(if_neg (show ¬ v = -1 by omega)).symm, rfl⟩)
                | (rw [if_neg (by omega), numL_s, if_neg (show ¬ (q < t.length ∧ 48 ≤ t.getD q 0 ∧ t.getD q 0 ≤ 57) by omega)] at hres
                   rw [← hres]
                   exact ⟨(if_neg (show ¬ v = -1 by omega)).symm, rfl⟩)
            · refine G.bipush X 103 dX6_number_101 rfl (by decide) ?_
              refine G.iload_n X 104 dX6_number_103 rfl rfl ?_
              refine G.imul X 105 dX6_number_104 rfl ?_
              refine G.aload_n X 106 dX6_number_105 rfl rfl ?_
              refine G.getR X fl_X6_25 109 dX6_number_106 rfl (hY).1 (ShY.r8 hY) ?_
              refine G.aload_n X 110 dX6_number_109 rfl rfl ?_
              refine G.getf (v := vi ((q : Int))) X fl_X6_143 113 dX6_number_110 rfl (hY).1 ((xV_int ((hY).2.1 9 (by decide))).trans (congrArg vi ?_)) ?_
              · exact mu_same
              refine G.cald X 114 dX6_number_113 rfl ((ShY.a8 hY)).1 (((ShY.a8 hY)).2 _) rfl (by omega) (by decide) ?_
              rw [show mu M y 9 (q : Int) (y + 6) q = M (y + 6) q from mu_ne (Or.inl (by omega)), t3 q (by omega)]
              refine G.iadd X 115 dX6_number_114 rfl ?_
              refine G.bipush X 117 dX6_number_115 rfl (by decide) ?_
              refine G.isub X 118 dX6_number_117 rfl ?_
              refine G.istore_n (ls' := [_, _, _, _, _]) X 119 dX6_number_118 rfl (by decide) rfl ?_
              refine G.aload_n X 120 dX6_number_119 rfl rfl ?_
              refine G.dup X 121 dX6_number_120 rfl rfl ?_
              refine G.getf (v := vi ((q : Int))) X fl_X6_143 124 dX6_number_121 rfl (hY).1 ((xV_int ((hY).2.1 9 (by decide))).trans (congrArg vi ?_)) ?_
              · exact mu_same
              refine G.iconst X 125 dX6_number_124 rfl ?_
              refine G.iadd X 126 dX6_number_125 rfl ?_
              refine G.putI X fl_X6_143 fi_6_9 rfl 129 dX6_number_126 rfl (hY).1 ((hY).2.1 9 (by decide)) ?_
              refine G.iinc (ls' := [_, _, _, _, _]) X 132 dX6_number_129 rfl rfl (by decide) rfl ?_
              refine G.goto X 61 dX6_number_132 (by decide) ?_
              rw [if_neg (by omega), numL_s, if_pos (show (q < t.length ∧ 48 ≤ t.getD q 0 ∧ t.getD q 0 ≤ 57) by omega)] at hres
              refine G.eqm (M' := mu M y 9 ((q + 1 : Nat) : Int)) (by rw [mu_mu]; rfl) ?_
              refine ih (i + 1) (q + 1) _ (by omega) (by omega) (by omega) (by omega) (by omega) ?_
              rw [if_neg (by omega), show 10 * v + t.getD q 0 - 48 = 10 * v + (t.getD q 0 - 48) by omega]
              exact hres
  refine G.aload_n X 1 dX6_number_0 rfl rfl ?_
  refine G.getI X fl_X6_143 4 dX6_number_1 rfl (hY).1 ((hY).2.1 9 (by decide)) ?_
  refine G.aload_n X 5 dX6_number_4 rfl rfl ?_
  refine G.getI X fl_X6_140 8 dX6_number_5 rfl (hY).1 ((hY).2.1 7 (by decide)) ?_
  refine G.icmp_ge X 32 11 dX6_number_8 (by decide) rfl (by omega) (by omega) (fun hc8 => ?_) (fun hc8 => ?_)
  · refine G.bipush X 34 dX6_number_32 rfl (by decide) ?_
    refine G.iret X dX6_number_34 ⟨Nat.le_refl _, Nat.le_refl _⟩ ⟨rfl, rfl, rfl, _, rfl, ?_⟩
    unfold numF
    rw [if_neg (show ¬ (u < t.length ∧ 48 + x ≤ t.getD u 0 ∧ t.getD u 0 ≤ 57) by omega)]
    exact ⟨(if_pos rfl).symm, (mu_self hp).symm⟩
  · refine G.aload_n X 12 dX6_number_11 rfl rfl ?_
    refine G.getR X fl_X6_25 15 dX6_number_12 rfl (hY).1 (ShY.r8 hY) ?_
    refine G.aload_n X 16 dX6_number_15 rfl rfl ?_
    refine G.getI X fl_X6_143 19 dX6_number_16 rfl (hY).1 ((hY).2.1 9 (by decide)) ?_
    rw [hp]
    refine G.cald X 20 dX6_number_19 rfl ((ShY.a8 hY)).1 (((ShY.a8 hY)).2 _) rfl (by omega) (by decide) ?_
    rw [t3 u (by omega)]
    have hch19 := hch u (by omega)
    refine G.bipush X 22 dX6_number_20 rfl (by decide) ?_
    refine G.iload_n X 23 dX6_number_22 rfl rfl ?_
    refine G.iadd X 24 dX6_number_23 rfl ?_
    refine G.bipush X 26 dX6_number_24 rfl (by decide) ?_
    refine G.sI3 (d := 0) X ml_X6_36 ys_X6_in 29 dX6_number_26 rfl (c_X6_in l D Bs _ kd rf _ _ _ _ (by omega) (by omega) (by omega)) (by decide) ⟨Nat.zero_le _, Nat.zero_le _⟩ (Nat.le_of_ble_eq_true rfl) (fun r26 M26 h26 => ?_)
    obtain ⟨hr26, hm26⟩ := h26
    subst hr26
    obtain rfl := hm26.symm
    refine G.ifb_ne X 35 32 dX6_number_29 (by decide) rfl (fun hc29 => ?_) (fun hc29 => ?_)
    · refine G.aload_n X 36 dX6_number_35 rfl rfl ?_
      refine G.getR X fl_X6_25 39 dX6_number_36 rfl (hY).1 (ShY.r8 hY) ?_
      refine G.aload_n X 40 dX6_number_39 rfl rfl ?_
      refine G.getI X fl_X6_143 43 dX6_number_40 rfl (hY).1 ((hY).2.1 9 (by decide)) ?_
      rw [hp]
      refine G.cald X 44 dX6_number_43 rfl ((ShY.a8 hY)).1 (((ShY.a8 hY)).2 _) rfl (by omega) (by decide) ?_
      rw [t3 u (by omega)]
      have hch43 := hch u (by omega)
      refine G.bipush X 46 dX6_number_44 rfl (by decide) ?_
      refine G.isub X 47 dX6_number_46 rfl ?_
      refine G.istore_n (ls' := [_, _, _, _, _]) X 48 dX6_number_47 rfl (by decide) rfl ?_
      refine G.aload_n X 49 dX6_number_48 rfl rfl ?_
      refine G.dup X 50 dX6_number_49 rfl rfl ?_
      refine G.getf (v := vi ((u : Int))) X fl_X6_143 53 dX6_number_50 rfl (hY).1 ((xV_int ((hY).2.1 9 (by decide))).trans (congrArg vi ?_)) ?_
      · exact hp
      refine G.iconst X 54 dX6_number_53 rfl ?_
      refine G.iadd X 55 dX6_number_54 rfl ?_
      refine G.putI X fl_X6_143 fi_6_9 rfl 58 dX6_number_55 rfl (hY).1 ((hY).2.1 9 (by decide)) ?_
      refine G.iconst X 59 dX6_number_58 rfl ?_
      refine G.istore (ls' := [_, _, _, _, _]) X 61 dX6_number_59 rfl (by decide) rfl ?_
      refine L61 (dg - 1) 1 (u + 1) _ (by omega) (by omega) (by omega) (by omega) (by omega) ?_
      unfold numF
      rw [if_pos (show (u < t.length ∧ 48 + x ≤ t.getD u 0 ∧ t.getD u 0 ≤ 57) by omega)]
    · refine G.bipush X 34 dX6_number_32 rfl (by decide) ?_
      refine G.iret X dX6_number_34 ⟨Nat.le_refl _, Nat.le_refl _⟩ ⟨rfl, rfl, rfl, _, rfl, ?_⟩
      unfold numF
      rw [if_neg (show ¬ (u < t.length ∧ 48 + x ≤ t.getD u 0 ∧ t.getD u 0 ≤ 57) by omega)]
      exact ⟨(if_pos rfl).symm, (mu_self hp).symm⟩
