set_option maxHeartbeats 4000000 in
set_option maxRecDepth 100000 in
theorem c_X5_fill (l : Launch) (D : xD) (Bs sz : Nat) (kd : xKd) (rf : xRf) (M : xM) (a : Nat) (r : xR) (h : List xR) (sn : Option xR) (t : List Int) (x : Int) (hX : ShX kd rf a) (hV : Vr r) (hB : CB h sn) (hC : CSt M a r h sn t) (rx : IR x) : CtI l D Bs yX5_fill cX5_fill 4 (some .int) 3 [.ref a, vi x] sz kd rf M (fun q M' => q = (fillF x r).1 ∧ CSt M' a (actR (fillF x r).2 r) (actH (fillF x r).2 r h) sn t ∧ Off M M' a 215) := by
  refine Ctr.of (yv_X5_fill.1.2.2.2.2) (List.forall_mem_cons.mpr ⟨rfl, List.forall_mem_cons.mpr ⟨rfl, fun _ h => absurd h List.not_mem_nil⟩⟩) (Nat.le_of_ble_eq_true rfl) [some (.ref a), some (vi x), none, none] rfl ?_
  intro p e s m args below meth c X hin
  obtain ⟨hM, ⟨o, hho⟩, hsnf, hsn, htx⟩ := id hC
  have hVk := hV.k
  obtain ⟨n6, n6b⟩ := hV.1.n6
  obtain ⟨n7, n7b⟩ := hV.1.n7
  obtain ⟨hv0, hv1, hv2, hv3, hv6, hv7⟩ := hV.1.1
  obtain ⟨hb0, hb1, hb2, hb3, -, -, -, hb7, hb8⟩ := hM.1
  refine G.aload_n X 1 dX5_fill_0 rfl rfl ?_
  refine G.getR X fl_X5_10 4 dX5_fill_1 rfl (hX).1 (ShX.r0 hX) ?_
  refine G.iload_n X 5 dX5_fill_4 rfl rfl ?_
  refine G.vI1 (d := 0) X ml_X5_79 yv_X4_isSet 8 dX5_fill_5 rfl (c_X4_isSet l D Bs _ kd rf _ (a + 1) _ ((ShX.now hX)) (by omega) (by omega)) ⟨_, _, ((ShX.now hX)).1, rfl, rfl⟩ (by decide) ⟨Nat.zero_le _, Nat.zero_le _⟩ (Nat.le_of_ble_eq_true rfl) (fun r5 M5 h5 => ?_)
  obtain ⟨hr5, hm5⟩ := h5
  subst hr5
  obtain rfl := hm5.symm
  refine G.ifb_ne X 13 11 dX5_fill_8 (by decide) rfl (fun hc8 => ?_) (fun hc8 => ?_)
  · obtain ⟨i, rfl⟩ : ∃ i : Nat, x = (i : Int) := ⟨x.toNat, by omega⟩
    obtain ⟨-, g1, -, -, g4, g5, -, -, -⟩ := hM.2.1 (i) (by omega)
    obtain ⟨-, v1, -, -, v4, v5, -, -⟩ := hV.1.2.1 (i) (by omega)
    have hlf : 0 ≤ litF r i ∧ litF r i ≤ 500 := by
      unfold litF
      split <;> omega
    refine G.aload_n X 14 dX5_fill_13 rfl rfl ?_
    refine G.getR X fl_X5_10 17 dX5_fill_14 rfl (hX).1 (ShX.r0 hX) ?_
    refine G.getR X fl_X5_83 20 dX5_fill_17 rfl ((ShX.now hX)).1 ((ShX.now hX)).2.2.1 ?_
    refine G.iload_n X 21 dX5_fill_20 rfl rfl ?_
    refine G.aald X 22 dX5_fill_21 rfl (ShSt.kg (ShX.now hX)) (by decide) (ShSt.rg (ShX.now hX) (by omega)) rfl (by omega) (by decide) ?_
    refine G.astore_n (ls' := [_, _, _, _]) X 23 dX5_fill_22 rfl (by decide) rfl ?_
    refine G.aload_n X 24 dX5_fill_23 rfl rfl ?_
    refine G.getI X fl_X5_87 27 dX5_fill_24 rfl (ShSt.g (ShX.now hX) (by omega)).1 ((ShSt.g (ShX.now hX) (by omega)).2 5) ?_
    refine G.bipush X 29 dX5_fill_27 rfl (by decide) ?_
    refine G.icmp_eq X 35 32 dX5_fill_29 (by decide) rfl (by omega) (by omega) (fun hc29 => ?_) (fun hc29 => ?_)
    · refine G.aload_n X 36 dX5_fill_35 rfl rfl ?_
      refine G.vI0 (d := 0) X ml_X5_92 yv_X1_room 39 dX5_fill_36 rfl (c_X1_room l D Bs _ kd rf _ _ (ShSt.g (ShX.now hX) (by omega))) ⟨_, _, (ShSt.g (ShX.now hX) (by omega)).1, rfl, rfl⟩ (by decide) ⟨Nat.zero_le _, Nat.zero_le _⟩ (Nat.le_of_ble_eq_true rfl) (fun r36 M36 h36 => ?_)
      obtain ⟨hr36, hm36⟩ := h36
      subst hr36
      obtain rfl := hm36.symm
      refine G.aload_n X 40 dX5_fill_39 rfl rfl ?_
      refine G.getR X fl_X5_10 43 dX5_fill_40 rfl (hX).1 (ShX.r0 hX) ?_
      refine G.getI X fl_X5_48 46 dX5_fill_43 rfl ((ShX.now hX)).1 (((ShX.now hX)).2.1 3 (by decide)) ?_
      refine G.min X ml_X5_96 49 dX5_fill_46 rfl (by omega) (by omega) ⟨Nat.le_of_ble_eq_true rfl, Nat.le_of_ble_eq_true rfl⟩ ⟨Nat.zero_le _, Nat.zero_le _⟩ ?_
      rw [show (if M (a + 1) 3 < M (a + 1 + 3 + i) 1 - M (a + 1 + 3 + i) 4 then M (a + 1) 3 else M (a + 1 + 3 + i) 1 - M (a + 1 + 3 + i) 4) = litF r i by unfold litF; rw [hb3, g1, g4]]
      refine G.istore_n (ls' := [_, _, _, _]) X 50 dX5_fill_49 rfl (by decide) rfl ?_
      refine G.iload_n X 51 dX5_fill_50 rfl rfl ?_
      refine G.if_gt X 57 54 dX5_fill_51 (by decide) rfl (by omega) (fun hc51 => ?_) (fun hc51 => ?_)
      · refine G.aload_n X 58 dX5_fill_57 rfl rfl ?_
        refine G.getR X fl_X5_29 61 dX5_fill_58 rfl (hX).1 (ShX.r4 hX) ?_
        refine G.aload_n X 62 dX5_fill_61 rfl rfl ?_
        refine G.getR X fl_X5_10 65 dX5_fill_62 rfl (hX).1 (ShX.r0 hX) ?_
        refine G.vV1 (d := 2) X ml_X5_53 yv_X2_push 68 dX5_fill_65 rfl (c_X2_push l D Bs _ kd rf _ (a + 76) (a + 1) o h r (ShX.hist hX) (ShX.now hX) hVk hM hho hB.1 (by omega)) ⟨_, _, ((ShX.hist hX)).1, rfl, rfl⟩ (by decide) ⟨Nat.zero_le _, Nat.zero_le _⟩ (Nat.le_of_ble_eq_true rfl) (fun M65 h65 => ?_)
        have hC2 := hC.push hV.1.bn hB h65.1 h65.2
        have hO2 : Off M M65 a 215 := h65.2.mono (by omega)
        have hB2 := hB.push hV.1.bn
        have hM2 := hC2.1
        obtain ⟨hp0, hp1, hp2, hp3, -, hp5, -, hp7, hp8⟩ := hM2.1
        obtain ⟨-, -, -, -, q4, -⟩ := hM2.2.1 i (by omega)
        refine G.aload_n X 69 dX5_fill_68 rfl rfl ?_
        refine G.dup X 70 dX5_fill_69 rfl rfl ?_
        refine G.getf (v := vi (fS r i 4)) X fl_X5_100 73 dX5_fill_70 rfl (ShSt.g (ShX.now hX) (by omega)).1 ((xV_int ((ShSt.g (ShX.now hX) (by omega)).2 4)).trans (congrArg vi ?_)) ?_
        · exact q4
        refine G.iload_n X 74 dX5_fill_73 rfl rfl ?_
        refine G.iadd X 75 dX5_fill_74 rfl ?_
        refine G.putI X fl_X5_100 fi_1_4 rfl 78 dX5_fill_75 rfl (ShSt.g (ShX.now hX) (by omega)).1 ((ShSt.g (ShX.now hX) (by omega)).2 4) ?_
        refine G.aload_n X 79 dX5_fill_78 rfl rfl ?_
        refine G.getR X fl_X5_10 82 dX5_fill_79 rfl (hX).1 (ShX.r0 hX) ?_
        refine G.dup X 83 dX5_fill_82 rfl rfl ?_
        refine G.getf (v := vi (r 3)) X fl_X5_48 86 dX5_fill_83 rfl ((ShX.now hX)).1 ((xV_int (((ShX.now hX)).2.1 3 (by decide))).trans (congrArg vi ?_)) ?_
        · rw [mu_ne (Or.inl (by omega))]; exact hp3
        refine G.iload_n X 87 dX5_fill_86 rfl rfl ?_
        refine G.isub X 88 dX5_fill_87 rfl ?_
        refine G.putI X fl_X5_48 fi_4_3 rfl 91 dX5_fill_88 rfl ((ShX.now hX)).1 (((ShX.now hX)).2.1 3 (by decide)) ?_
        refine G.iload_n X 92 dX5_fill_91 rfl rfl ?_
        refine G.iret X dX5_fill_92 ⟨Nat.le_refl _, Nat.le_refl _⟩ ⟨rfl, rfl, rfl, _, rfl, ?_⟩
        unfold fillF
        simp only [Int.toNat_natCast]
        rw [if_neg (by omega), if_neg (by omega), if_neg (by omega)]
        exact ⟨rfl, hC2.now hB2 ((hM2.setG (k := 4) (x := fS r i 4 + litF r i) (by omega) hV.1.bn (by decide) (by decide)).set0 (k := 3) (j := 3) (by rw [nS_fuS, nC_fuS]; exact ⟨n6b, n7b⟩) (by decide)) (Off.mu (Off.mu (Off.rf) (by omega)) (by omega)), hO2.trans (Off.mono (b := a + 1) (n := 25) (Off.mu (Off.mu (Off.rf) (by omega)) (by omega)) (by omega))⟩
      · refine G.bipush X 56 dX5_fill_54 rfl (by decide) ?_
        refine G.iret X dX5_fill_56 ⟨Nat.le_refl _, Nat.le_refl _⟩ ⟨rfl, rfl, rfl, _, rfl, ?_⟩
        unfold fillF
        simp only [Int.toNat_natCast]
        rw [if_neg (by omega), if_neg (by omega), if_pos (by omega)]
        exact ⟨rfl, hC, Off.rf⟩
    · refine G.bipush X 34 dX5_fill_32 rfl (by decide) ?_
      refine G.iret X dX5_fill_34 ⟨Nat.le_refl _, Nat.le_refl _⟩ ⟨rfl, rfl, rfl, _, rfl, ?_⟩
      unfold fillF
      simp only [Int.toNat_natCast]
      rw [if_neg (by omega), if_pos (by omega)]
      exact ⟨rfl, hC, Off.rf⟩
  · refine G.iconst X 12 dX5_fill_11 rfl ?_
    refine G.iret X dX5_fill_12 ⟨Nat.le_refl _, Nat.le_refl _⟩ ⟨rfl, rfl, rfl, _, rfl, ?_⟩
    unfold fillF
    rw [if_pos (by omega)]
    exact ⟨rfl, hC, Off.rf⟩
set_option maxHeartbeats 4000000 in
set_option maxRecDepth 100000 in
theorem c_X5_bring (l : Launch) (D : xD) (Bs sz : Nat) (kd : xKd) (rf : xRf) (M : xM) (a : Nat) (r : xR) (h : List xR) (sn : Option xR) (t : List Int) (x y : Int) (hX : ShX kd rf a) (hV : Vr r) (hB : CB h sn) (hC : CSt M a r h sn t) (rx : IR x) (ry : IR y) : CtI l D Bs yX5_bring cX5_bring 6 (some .int) 3 [.ref a, vi x, vi y] sz kd rf M (fun q M' => q = (bringF x y r).1 ∧ CSt M' a (actR (bringF x y r).2 r) (actH (bringF x y r).2 r h) sn t ∧ Off M M' a 215) := by
  refine Ctr.of (yv_X5_bring.1.2.2.2.2) (List.forall_mem_cons.mpr ⟨rfl, List.forall_mem_cons.mpr ⟨rfl, List.forall_mem_cons.mpr ⟨rfl, fun _ h => absurd h List.not_mem_nil⟩⟩⟩) (Nat.le_of_ble_eq_true rfl) [some (.ref a), some (vi x), some (vi y), none, none, none] rfl ?_
  intro p e s m args below meth c X hin
  obtain ⟨hM, ⟨o, hho⟩, hsnf, hsn, htx⟩ := id hC
  have hVk := hV.k
  obtain ⟨n6, n6b⟩ := hV.1.n6
  obtain ⟨n7, n7b⟩ := hV.1.n7
  obtain ⟨hv0, hv1, hv2, hv3, hv6, hv7⟩ := hV.1.1
  obtain ⟨hb0, hb1, hb2, hb3, -, -, -, hb7, hb8⟩ := hM.1
  refine G.aload_n X 1 dX5_bring_0 rfl rfl ?_
  refine G.getR X fl_X5_10 4 dX5_bring_1 rfl (hX).1 (ShX.r0 hX) ?_
  refine G.iload_n X 5 dX5_bring_4 rfl rfl ?_
  refine G.vI1 (d := 0) X ml_X5_79 yv_X4_isSet 8 dX5_bring_5 rfl (c_X4_isSet l D Bs _ kd rf _ (a + 1) _ ((ShX.now hX)) (by omega) (by omega)) ⟨_, _, ((ShX.now hX)).1, rfl, rfl⟩ (by decide) ⟨Nat.zero_le _, Nat.zero_le _⟩ (Nat.le_of_ble_eq_true rfl) (fun r5 M5 h5 => ?_)
  obtain ⟨hr5, hm5⟩ := h5
  subst hr5
  obtain rfl := hm5.symm
  refine G.ifb_eq X 22 11 dX5_bring_8 (by decide) rfl (fun hc8 => ?_) (fun hc8 => ?_)
  · refine G.iconst X 23 dX5_bring_22 rfl ?_
    refine G.iret X dX5_bring_23 ⟨Nat.le_refl _, Nat.le_refl _⟩ ⟨rfl, rfl, rfl, _, rfl, ?_⟩
    unfold bringF
    rw [if_pos (by omega)]
    exact ⟨rfl, hC, Off.rf⟩
  · refine G.aload_n X 12 dX5_bring_11 rfl rfl ?_
    refine G.getR X fl_X5_10 15 dX5_bring_12 rfl (hX).1 (ShX.r0 hX) ?_
    refine G.iload_n X 16 dX5_bring_15 rfl rfl ?_
    refine G.vI1 (d := 0) X ml_X5_113 yv_X4_isSite 19 dX5_bring_16 rfl (c_X4_isSite l D Bs _ kd rf _ (a + 1) _ ((ShX.now hX)) (by omega) (by omega)) ⟨_, _, ((ShX.now hX)).1, rfl, rfl⟩ (by decide) ⟨Nat.zero_le _, Nat.zero_le _⟩ (Nat.le_of_ble_eq_true rfl) (fun r16 M16 h16 => ?_)
    obtain ⟨hr16, hm16⟩ := h16
    subst hr16
    obtain rfl := hm16.symm
    refine G.ifb_ne X 24 22 dX5_bring_19 (by decide) rfl (fun hc19 => ?_) (fun hc19 => ?_)
    · obtain ⟨i, rfl⟩ : ∃ i : Nat, x = (i : Int) := ⟨x.toNat, by omega⟩
      obtain ⟨j, rfl⟩ : ∃ j : Nat, y = (j : Int) := ⟨y.toNat, by omega⟩
      obtain ⟨g0, -, -, -, -, g5, -, -, -⟩ := hM.2.1 (i) (by omega)
      obtain ⟨v0, -, -, -, -, v5, -, -⟩ := hV.1.2.1 (i) (by omega)
      obtain ⟨-, c1, -, c3, c4, -, -, -, -⟩ := hM.2.2 (j) (by omega)
      obtain ⟨-, w1, -, w3, w4, -, -⟩ := hV.1.2.2 (j) (by omega)
      refine G.aload_n X 25 dX5_bring_24 rfl rfl ?_
      refine G.getR X fl_X5_10 28 dX5_bring_25 rfl (hX).1 (ShX.r0 hX) ?_
      refine G.getR X fl_X5_83 31 dX5_bring_28 rfl ((ShX.now hX)).1 ((ShX.now hX)).2.2.1 ?_
      refine G.iload_n X 32 dX5_bring_31 rfl rfl ?_
      refine G.aald X 33 dX5_bring_32 rfl (ShSt.kg (ShX.now hX)) (by decide) (ShSt.rg (ShX.now hX) (by omega)) rfl (by omega) (by decide) ?_
      refine G.astore_n (ls' := [_, _, _, _, _, _]) X 34 dX5_bring_33 rfl (by decide) rfl ?_
      refine G.aload_n X 35 dX5_bring_34 rfl rfl ?_
      refine G.getR X fl_X5_10 38 dX5_bring_35 rfl (hX).1 (ShX.r0 hX) ?_
      refine G.getR X fl_X5_116 41 dX5_bring_38 rfl ((ShX.now hX)).1 ((ShX.now hX)).2.2.2.1 ?_
      refine G.iload_n X 42 dX5_bring_41 rfl rfl ?_
      refine G.aald X 43 dX5_bring_42 rfl (ShSt.kc (ShX.now hX)) (by decide) (ShSt.rc (ShX.now hX) (by omega)) rfl (by omega) (by decide) ?_
      refine G.astore (ls' := [_, _, _, _, _, _]) X 45 dX5_bring_43 rfl (by decide) rfl ?_
      refine G.aload_n X 46 dX5_bring_45 rfl rfl ?_
      refine G.getI X fl_X5_87 49 dX5_bring_46 rfl (ShSt.g (ShX.now hX) (by omega)).1 ((ShSt.g (ShX.now hX) (by omega)).2 5) ?_
      refine G.bipush X 51 dX5_bring_49 rfl (by decide) ?_
      refine G.icmp_ne X 95 54 dX5_bring_51 (by decide) rfl (by omega) (by omega) (fun hc51 => ?_) (fun hc51 => ?_)
      · refine G.iconst X 96 dX5_bring_95 rfl ?_
        refine G.istore (ls' := [_, _, _, _, _, _]) X 98 dX5_bring_96 rfl (by decide) rfl ?_
        refine G.iload X 100 dX5_bring_98 rfl rfl ?_
        refine G.if_ne X 106 103 dX5_bring_100 (by decide) rfl (by omega) (fun hc100 => ?_) (fun hc100 => ?_)
        · exact absurd hc100 (by decide)
        · refine G.bipush X 105 dX5_bring_103 rfl (by decide) ?_
          refine G.iret X dX5_bring_105 ⟨Nat.le_refl _, Nat.le_refl _⟩ ⟨rfl, rfl, rfl, _, rfl, ?_⟩
          unfold bringF
          simp only [Int.toNat_natCast]
          rw [if_neg (by omega), if_pos (by omega)]
          exact ⟨rfl, hC, Off.rf⟩
      · refine G.aload X 56 dX5_bring_54 rfl rfl ?_
        refine G.getI X fl_X5_120 59 dX5_bring_56 rfl (ShSt.c (ShX.now hX) (by omega)).1 ((ShSt.c (ShX.now hX) (by omega)).2 4) ?_
        refine G.bipush X 61 dX5_bring_59 rfl (by decide) ?_
        refine G.icmp_ne X 95 64 dX5_bring_61 (by decide) rfl (by omega) (by omega) (fun hc61 => ?_) (fun hc61 => ?_)
        · refine G.iconst X 96 dX5_bring_95 rfl ?_
          refine G.istore (ls' := [_, _, _, _, _, _]) X 98 dX5_bring_96 rfl (by decide) rfl ?_
          refine G.iload X 100 dX5_bring_98 rfl rfl ?_
          refine G.if_ne X 106 103 dX5_bring_100 (by decide) rfl (by omega) (fun hc100 => ?_) (fun hc100 => ?_)
          · exact absurd hc100 (by decide)
          · refine G.bipush X 105 dX5_bring_103 rfl (by decide) ?_
            refine G.iret X dX5_bring_105 ⟨Nat.le_refl _, Nat.le_refl _⟩ ⟨rfl, rfl, rfl, _, rfl, ?_⟩
            unfold bringF
            simp only [Int.toNat_natCast]
            rw [if_neg (by omega), if_pos (by omega)]
            exact ⟨rfl, hC, Off.rf⟩
        · refine G.aload_n X 65 dX5_bring_64 rfl rfl ?_
          refine G.getR X fl_X5_10 68 dX5_bring_65 rfl (hX).1 (ShX.r0 hX) ?_
          refine G.getI X fl_X5_125 71 dX5_bring_68 rfl ((ShX.now hX)).1 (((ShX.now hX)).2.1 0 (by decide)) ?_
          refine G.aload X 73 dX5_bring_71 rfl rfl ?_
          refine G.getI X fl_X5_128 76 dX5_bring_73 rfl (ShSt.c (ShX.now hX) (by omega)).1 ((ShSt.c (ShX.now hX) (by omega)).2 3) ?_
          refine G.icmp_ge X 95 79 dX5_bring_76 (by decide) rfl (by omega) (by omega) (fun hc76 => ?_) (fun hc76 => ?_)
          · refine G.iconst X 96 dX5_bring_95 rfl ?_
            refine G.istore (ls' := [_, _, _, _, _, _]) X 98 dX5_bring_96 rfl (by decide) rfl ?_
            refine G.iload X 100 dX5_bring_98 rfl rfl ?_
            refine G.if_ne X 106 103 dX5_bring_100 (by decide) rfl (by omega) (fun hc100 => ?_) (fun hc100 => ?_)
            · exact absurd hc100 (by decide)
            · refine G.bipush X 105 dX5_bring_103 rfl (by decide) ?_
              refine G.iret X dX5_bring_105 ⟨Nat.le_refl _, Nat.le_refl _⟩ ⟨rfl, rfl, rfl, _, rfl, ?_⟩
              unfold bringF
              simp only [Int.toNat_natCast]
              rw [if_neg (by omega), if_pos (by omega)]
              exact ⟨rfl, hC, Off.rf⟩
          · refine G.aload_n X 80 dX5_bring_79 rfl rfl ?_
            refine G.getI X fl_X5_131 83 dX5_bring_80 rfl (ShSt.g (ShX.now hX) (by omega)).1 ((ShSt.g (ShX.now hX) (by omega)).2 0) ?_
            refine G.aload X 85 dX5_bring_83 rfl rfl ?_
            refine G.getI X fl_X5_134 88 dX5_bring_85 rfl (ShSt.c (ShX.now hX) (by omega)).1 ((ShSt.c (ShX.now hX) (by omega)).2 1) ?_
            refine G.icmp_lt X 95 91 dX5_bring_88 (by decide) rfl (by omega) (by omega) (fun hc88 => ?_) (fun hc88 => ?_)
            · refine G.iconst X 96 dX5_bring_95 rfl ?_
              refine G.istore (ls' := [_, _, _, _, _, _]) X 98 dX5_bring_96 rfl (by decide) rfl ?_
              refine G.iload X 100 dX5_bring_98 rfl rfl ?_
              refine G.if_ne X 106 103 dX5_bring_100 (by decide) rfl (by omega) (fun hc100 => ?_) (fun hc100 => ?_)
              · exact absurd hc100 (by decide)
              · refine G.bipush X 105 dX5_bring_103 rfl (by decide) ?_
                refine G.iret X dX5_bring_105 ⟨Nat.le_refl _, Nat.le_refl _⟩ ⟨rfl, rfl, rfl, _, rfl, ?_⟩
                unfold bringF
                simp only [Int.toNat_natCast]
                rw [if_neg (by omega), if_pos (by omega)]
                exact ⟨rfl, hC, Off.rf⟩
            · refine G.iconst X 92 dX5_bring_91 rfl ?_
              refine G.goto X 96 dX5_bring_92 (by decide) ?_
              refine G.istore (ls' := [_, _, _, _, _, _]) X 98 dX5_bring_96 rfl (by decide) rfl ?_
              refine G.iload X 100 dX5_bring_98 rfl rfl ?_
              refine G.if_ne X 106 103 dX5_bring_100 (by decide) rfl (by omega) (fun hc100 => ?_) (fun hc100 => ?_)
              · refine G.aload_n X 107 dX5_bring_106 rfl rfl ?_
                refine G.getR X fl_X5_29 110 dX5_bring_107 rfl (hX).1 (ShX.r4 hX) ?_
                refine G.aload_n X 111 dX5_bring_110 rfl rfl ?_
                refine G.getR X fl_X5_10 114 dX5_bring_111 rfl (hX).1 (ShX.r0 hX) ?_
                refine G.vV1 (d := 2) X ml_X5_53 yv_X2_push 117 dX5_bring_114 rfl (c_X2_push l D Bs _ kd rf _ (a + 76) (a + 1) o h r (ShX.hist hX) (ShX.now hX) hVk hM hho hB.1 (by omega)) ⟨_, _, ((ShX.hist hX)).1, rfl, rfl⟩ (by decide) ⟨Nat.zero_le _, Nat.zero_le _⟩ (Nat.le_of_ble_eq_true rfl) (fun M114 h114 => ?_)
                have hC2 := hC.push hV.1.bn hB h114.1 h114.2
                have hO2 : Off M M114 a 215 := h114.2.mono (by omega)
                have hB2 := hB.push hV.1.bn
                have hM2 := hC2.1
                obtain ⟨hp0, hp1, hp2, hp3, -, hp5, -, hp7, hp8⟩ := hM2.1
                refine G.aload_n X 118 dX5_bring_117 rfl rfl ?_
                refine G.getR X fl_X5_10 121 dX5_bring_118 rfl (hX).1 (ShX.r0 hX) ?_
                refine G.iload_n X 122 dX5_bring_121 rfl rfl ?_
                refine G.iload_n X 123 dX5_bring_122 rfl rfl ?_
                refine G.vV2 (d := 1) X ml_X5_137 yv_X4_send 126 dX5_bring_123 rfl (c_X4_send l D Bs _ kd rf _ (a + 1) _ _ r ((ShX.now hX)) hVk hM2 (by omega) (by omega)) ⟨_, _, ((ShX.now hX)).1, rfl, rfl⟩ (by decide) ⟨Nat.zero_le _, Nat.zero_le _⟩ (Nat.le_of_ble_eq_true rfl) (fun M123 h123 => ?_)
                have hV3 := Vb.come hVk (by decide) (show i < nS r by omega) (show j < nC r by omega)
                have e6 : nS (comeR r i j) = nS r := nS_of (comeR_0 (by decide))
                refine G.aload_n X 127 dX5_bring_126 rfl rfl ?_
                refine G.getR X fl_X5_10 130 dX5_bring_127 rfl (hX).1 (ShX.r0 hX) ?_
                refine G.vI0 (d := 0) X ml_X5_141 yv_X4_yardSize 133 dX5_bring_130 rfl (c_X4_yardSize l D Bs _ kd rf _ (a + 1) _ ((ShX.now hX)) hV3 h123.1) ⟨_, _, ((ShX.now hX)).1, rfl, rfl⟩ (by decide) ⟨Nat.zero_le _, Nat.zero_le _⟩ (Nat.le_of_ble_eq_true rfl) (fun r130 M130 h130 => ?_)
                obtain ⟨hr130, hm130⟩ := h130
                subst hr130
                obtain rfl := hm130.symm
                refine G.iret X dX5_bring_133 ⟨Nat.le_refl _, Nat.le_refl _⟩ ⟨rfl, rfl, rfl, _, rfl, ?_⟩
                unfold bringF
                simp only [Int.toNat_natCast]
                rw [if_neg (by omega), if_neg (by omega)]
                exact ⟨by rw [e6], hC2.now hB2 h123.1 h123.2, hO2.trans (h123.2.mono (by omega))⟩
              · exact absurd hc100 (by decide)
    · refine G.iconst X 23 dX5_bring_22 rfl ?_
      refine G.iret X dX5_bring_23 ⟨Nat.le_refl _, Nat.le_refl _⟩ ⟨rfl, rfl, rfl, _, rfl, ?_⟩
      unfold bringF
      rw [if_pos (by omega)]
      exact ⟨rfl, hC, Off.rf⟩
set_option maxHeartbeats 4000000 in
set_option maxRecDepth 100000 in
theorem c_X5_takeBack (l : Launch) (D : xD) (Bs sz : Nat) (kd : xKd) (rf : xRf) (M : xM) (a : Nat) (r : xR) (h : List xR) (sn : Option xR) (t : List Int) (x : Int) (hX : ShX kd rf a) (hV : Vr r) (hB : CB h sn) (hC : CSt M a r h sn t) (rx : IR x) : CtI l D Bs yX5_takeBack cX5_takeBack 3 (some .int) 3 [.ref a, vi x] sz kd rf M (fun q M' => q = (takeF x r).1 ∧ CSt M' a (actR (takeF x r).2 r) (actH (takeF x r).2 r h) sn t ∧ Off M M' a 215) := by
  refine Ctr.of (yv_X5_takeBack.1.2.2.2.2) (List.forall_mem_cons.mpr ⟨rfl, List.forall_mem_cons.mpr ⟨rfl, fun _ h => absurd h List.not_mem_nil⟩⟩) (Nat.le_of_ble_eq_true rfl) [some (.ref a), some (vi x), none] rfl ?_
  intro p e s m args below meth c X hin
  obtain ⟨hM, ⟨o, hho⟩, hsnf, hsn, htx⟩ := id hC
  have hVk := hV.k
  obtain ⟨n6, n6b⟩ := hV.1.n6
  obtain ⟨n7, n7b⟩ := hV.1.n7
  obtain ⟨hv0, hv1, hv2, hv3, hv6, hv7⟩ := hV.1.1
  obtain ⟨hb0, hb1, hb2, hb3, -, -, -, hb7, hb8⟩ := hM.1
  refine G.aload_n X 1 dX5_takeBack_0 rfl rfl ?_
  refine G.getR X fl_X5_10 4 dX5_takeBack_1 rfl (hX).1 (ShX.r0 hX) ?_
  refine G.iload_n X 5 dX5_takeBack_4 rfl rfl ?_
  refine G.vI1 (d := 0) X ml_X5_113 yv_X4_isSite 8 dX5_takeBack_5 rfl (c_X4_isSite l D Bs _ kd rf _ (a + 1) _ ((ShX.now hX)) (by omega) (by omega)) ⟨_, _, ((ShX.now hX)).1, rfl, rfl⟩ (by decide) ⟨Nat.zero_le _, Nat.zero_le _⟩ (Nat.le_of_ble_eq_true rfl) (fun r5 M5 h5 => ?_)
  obtain ⟨hr5, hm5⟩ := h5
  subst hr5
  obtain rfl := hm5.symm
  refine G.ifb_ne X 13 11 dX5_takeBack_8 (by decide) rfl (fun hc8 => ?_) (fun hc8 => ?_)
  · obtain ⟨j, rfl⟩ : ∃ j : Nat, x = (j : Int) := ⟨x.toNat, by omega⟩
    obtain ⟨-, -, -, -, c4, -, -, -, -⟩ := hM.2.2 (j) (by omega)
    obtain ⟨-, -, -, -, w4, -, -⟩ := hV.1.2.2 (j) (by omega)
    refine G.aload_n X 14 dX5_takeBack_13 rfl rfl ?_
    refine G.getR X fl_X5_10 17 dX5_takeBack_14 rfl (hX).1 (ShX.r0 hX) ?_
    refine G.getR X fl_X5_116 20 dX5_takeBack_17 rfl ((ShX.now hX)).1 ((ShX.now hX)).2.2.2.1 ?_
    refine G.iload_n X 21 dX5_takeBack_20 rfl rfl ?_
    refine G.aald X 22 dX5_takeBack_21 rfl (ShSt.kc (ShX.now hX)) (by decide) (ShSt.rc (ShX.now hX) (by omega)) rfl (by omega) (by decide) ?_
    refine G.getI X fl_X5_120 25 dX5_takeBack_22 rfl (ShSt.c (ShX.now hX) (by omega)).1 ((ShSt.c (ShX.now hX) (by omega)).2 4) ?_
    refine G.istore_n (ls' := [_, _, _]) X 26 dX5_takeBack_25 rfl (by decide) rfl ?_
    refine G.iload_n X 27 dX5_takeBack_26 rfl rfl ?_
    refine G.bipush X 29 dX5_takeBack_27 rfl (by decide) ?_
    refine G.icmp_ne X 35 32 dX5_takeBack_29 (by decide) rfl (by omega) (by omega) (fun hc29 => ?_) (fun hc29 => ?_)
    · refine G.aload_n X 36 dX5_takeBack_35 rfl rfl ?_
      refine G.getR X fl_X5_29 39 dX5_takeBack_36 rfl (hX).1 (ShX.r4 hX) ?_
      refine G.aload_n X 40 dX5_takeBack_39 rfl rfl ?_
      refine G.getR X fl_X5_10 43 dX5_takeBack_40 rfl (hX).1 (ShX.r0 hX) ?_
      refine G.vV1 (d := 2) X ml_X5_53 yv_X2_push 46 dX5_takeBack_43 rfl (c_X2_push l D Bs _ kd rf _ (a + 76) (a + 1) o h r (ShX.hist hX) (ShX.now hX) hVk hM hho hB.1 (by omega)) ⟨_, _, ((ShX.hist hX)).1, rfl, rfl⟩ (by decide) ⟨Nat.zero_le _, Nat.zero_le _⟩ (Nat.le_of_ble_eq_true rfl) (fun M43 h43 => ?_)
      have hC2 := hC.push hV.1.bn hB h43.1 h43.2
      have hO2 : Off M M43 a 215 := h43.2.mono (by omega)
      have hB2 := hB.push hV.1.bn
      have hM2 := hC2.1
      obtain ⟨hp0, hp1, hp2, hp3, -, hp5, -, hp7, hp8⟩ := hM2.1
      refine G.aload_n X 47 dX5_takeBack_46 rfl rfl ?_
      refine G.getR X fl_X5_10 50 dX5_takeBack_47 rfl (hX).1 (ShX.r0 hX) ?_
      refine G.iload_n X 51 dX5_takeBack_50 rfl rfl ?_
      refine G.vV1 (d := 2) X ml_X5_144 yv_X4_release 54 dX5_takeBack_51 rfl (c_X4_release l D Bs _ kd rf _ (a + 1) _ r ((ShX.now hX)) hVk hM2 (by omega)) ⟨_, _, ((ShX.now hX)).1, rfl, rfl⟩ (by decide) ⟨Nat.zero_le _, Nat.zero_le _⟩ (Nat.le_of_ble_eq_true rfl) (fun M51 h51 => ?_)
      rw [show relR r j = backR r j by unfold relR; exact if_pos (by omega)] at h51
      refine G.iload_n X 55 dX5_takeBack_54 rfl rfl ?_
      refine G.iret X dX5_takeBack_55 ⟨Nat.le_refl _, Nat.le_refl _⟩ ⟨rfl, rfl, rfl, _, rfl, ?_⟩
      unfold takeF
      simp only [Int.toNat_natCast]
      rw [if_neg (by omega), if_neg (by omega)]
      exact ⟨by show _ = fC r j 4 - 1; omega, hC2.now hB2 h51.1 h51.2, hO2.trans (h51.2.mono (by omega))⟩
    · refine G.bipush X 34 dX5_takeBack_32 rfl (by decide) ?_
      refine G.iret X dX5_takeBack_34 ⟨Nat.le_refl _, Nat.le_refl _⟩ ⟨rfl, rfl, rfl, _, rfl, ?_⟩
      unfold takeF
      simp only [Int.toNat_natCast]
      rw [if_neg (by omega), if_pos (by omega)]
      exact ⟨rfl, hC, Off.rf⟩
  · refine G.iconst X 12 dX5_takeBack_11 rfl ?_
    refine G.iret X dX5_takeBack_12 ⟨Nat.le_refl _, Nat.le_refl _⟩ ⟨rfl, rfl, rfl, _, rfl, ?_⟩
    unfold takeF
    rw [if_pos (by omega)]
    exact ⟨rfl, hC, Off.rf⟩
set_option maxHeartbeats 4000000 in
set_option maxRecDepth 100000 in
theorem c_X5_pass (l : Launch) (D : xD) (Bs sz : Nat) (kd : xKd) (rf : xRf) (M : xM) (a : Nat) (r : xR) (h : List xR) (sn : Option xR) (t : List Int) (x : Int) (hX : ShX kd rf a) (hV : Vr r) (hB : CB h sn) (hC : CSt M a r h sn t) (rx : IR x) : CtI l D Bs yX5_pass cX5_pass 3 (some .int) 6 [.ref a, vi x] sz kd rf M (fun q M' => q = (passF x r).1 ∧ CSt M' a (actR (passF x r).2 r) (actH (passF x r).2 r h) sn t ∧ Off M M' a 215) := by
  refine Ctr.of (yv_X5_pass.1.2.2.2.2) (List.forall_mem_cons.mpr ⟨rfl, List.forall_mem_cons.mpr ⟨rfl, fun _ h => absurd h List.not_mem_nil⟩⟩) (Nat.le_of_ble_eq_true rfl) [some (.ref a), some (vi x), none] rfl ?_
  intro p e s m args below meth c X hin
  obtain ⟨hM, ⟨o, hho⟩, hsnf, hsn, htx⟩ := id hC
  have hVk := hV.k
  obtain ⟨n6, n6b⟩ := hV.1.n6
  obtain ⟨n7, n7b⟩ := hV.1.n7
  obtain ⟨hv0, hv1, hv2, hv3, hv6, hv7⟩ := hV.1.1
  obtain ⟨hb0, hb1, hb2, hb3, -, -, -, hb7, hb8⟩ := hM.1
  refine G.iload_n X 1 dX5_pass_0 rfl rfl ?_
  refine G.iconst X 2 dX5_pass_1 rfl ?_
  refine G.bipush X 4 dX5_pass_2 rfl (by decide) ?_
  refine G.sI3 (d := 0) X ml_X5_44 ys_X5_isWithin 7 dX5_pass_4 rfl (c_X5_isWithin l D Bs _ kd rf _ _ _ _ (by omega) (by omega) (by omega)) (by decide) ⟨Nat.zero_le _, Nat.zero_le _⟩ (Nat.le_of_ble_eq_true rfl) (fun r4 M4 h4 => ?_)
  obtain ⟨hr4, hm4⟩ := h4
  subst hr4
  obtain rfl := hm4.symm
  refine G.ifb_ne X 13 10 dX5_pass_7 (by decide) rfl (fun hc7 => ?_) (fun hc7 => ?_)
  · obtain ⟨i, rfl⟩ : ∃ i : Nat, x = (i : Int) := ⟨x.toNat, by omega⟩
    refine G.aload_n X 14 dX5_pass_13 rfl rfl ?_
    refine G.getR X fl_X5_10 17 dX5_pass_14 rfl (hX).1 (ShX.r0 hX) ?_
    refine G.getI X fl_X5_125 20 dX5_pass_17 rfl ((ShX.now hX)).1 (((ShX.now hX)).2.1 0 (by decide)) ?_
    refine G.iload_n X 21 dX5_pass_20 rfl rfl ?_
    refine G.iadd X 22 dX5_pass_21 rfl ?_
    refine G.sipush X 25 dX5_pass_22 rfl (by decide) ?_
    refine G.icmp_le X 31 28 dX5_pass_25 (by decide) rfl (by omega) (by omega) (fun hc25 => ?_) (fun hc25 => ?_)
    · refine G.aload_n X 32 dX5_pass_31 rfl rfl ?_
      refine G.getR X fl_X5_29 35 dX5_pass_32 rfl (hX).1 (ShX.r4 hX) ?_
      refine G.aload_n X 36 dX5_pass_35 rfl rfl ?_
      refine G.getR X fl_X5_10 39 dX5_pass_36 rfl (hX).1 (ShX.r0 hX) ?_
      refine G.vV1 (d := 2) X ml_X5_53 yv_X2_push 42 dX5_pass_39 rfl (c_X2_push l D Bs _ kd rf _ (a + 76) (a + 1) o h r (ShX.hist hX) (ShX.now hX) hVk hM hho hB.1 (by omega)) ⟨_, _, ((ShX.hist hX)).1, rfl, rfl⟩ (by decide) ⟨Nat.zero_le _, Nat.zero_le _⟩ (Nat.le_of_ble_eq_true rfl) (fun M39 h39 => ?_)
      have hC2 := hC.push hV.1.bn hB h39.1 h39.2
      have hO2 : Off M M39 a 215 := h39.2.mono (by omega)
      have hB2 := hB.push hV.1.bn
      have hM2 := hC2.1
      obtain ⟨hp0, hp1, hp2, hp3, -, hp5, -, hp7, hp8⟩ := hM2.1
      refine G.aload_n X 43 dX5_pass_42 rfl rfl ?_
      refine G.getR X fl_X5_10 46 dX5_pass_43 rfl (hX).1 (ShX.r0 hX) ?_
      refine G.vI0 (d := 0) X ml_X5_168 yv_X4_litTotal 49 dX5_pass_46 rfl (c_X4_litTotal l D Bs _ kd rf _ (a + 1) r ((ShX.now hX)) hVk hM2) ⟨_, _, ((ShX.now hX)).1, rfl, rfl⟩ (by decide) ⟨Nat.zero_le _, Nat.zero_le _⟩ (Nat.le_of_ble_eq_true rfl) (fun r46 M46 h46 => ?_)
      obtain ⟨hr46, hm46⟩ := h46
      subst hr46
      obtain rfl := hm46.symm
      refine G.istore_n (ls' := [_, _, _]) X 50 dX5_pass_49 rfl (by decide) rfl ?_
      refine G.aload_n X 51 dX5_pass_50 rfl rfl ?_
      refine G.getR X fl_X5_10 54 dX5_pass_51 rfl (hX).1 (ShX.r0 hX) ?_
      refine G.iload_n X 55 dX5_pass_54 rfl rfl ?_
      refine G.vV1 (d := 5) X ml_X5_171 yv_X4_passHours 58 dX5_pass_55 rfl (c_X4_passHours l D Bs _ kd rf _ (a + 1) i r ((ShX.now hX)) hV hM2 (by omega)) ⟨_, _, ((ShX.now hX)).1, rfl, rfl⟩ (by decide) ⟨Nat.zero_le _, Nat.zero_le _⟩ (Nat.le_of_ble_eq_true rfl) (fun M55 h55 => ?_)
      have hV3 := hV.hours i (by omega)
      obtain ⟨-, e7, -⟩ := hoursR_n r i
      refine G.aload_n X 59 dX5_pass_58 rfl rfl ?_
      refine G.getR X fl_X5_10 62 dX5_pass_59 rfl (hX).1 (ShX.r0 hX) ?_
      refine G.vI0 (d := 0) X ml_X5_168 yv_X4_litTotal 65 dX5_pass_62 rfl (c_X4_litTotal l D Bs _ kd rf _ (a + 1) _ ((ShX.now hX)) hV3.k h55.1) ⟨_, _, ((ShX.now hX)).1, rfl, rfl⟩ (by decide) ⟨Nat.zero_le _, Nat.zero_le _⟩ (Nat.le_of_ble_eq_true rfl) (fun r62 M62 h62 => ?_)
      obtain ⟨hr62, hm62⟩ := h62
      subst hr62
      obtain rfl := hm62.symm
      refine G.iload_n X 66 dX5_pass_65 rfl rfl ?_
      refine G.isub X 67 dX5_pass_66 rfl ?_
      refine G.iret X dX5_pass_67 ⟨Nat.le_refl _, Nat.le_refl _⟩ ⟨rfl, rfl, rfl, _, rfl, ?_⟩
      unfold passF
      simp only [Int.toNat_natCast]
      rw [if_neg (by omega), if_neg (by omega)]
      exact ⟨by rw [hV3.2.1, hV.2.1], hC2.now hB2 h55.1 h55.2, hO2.trans (h55.2.mono (by omega))⟩
    · refine G.bipush X 30 dX5_pass_28 rfl (by decide) ?_
      refine G.iret X dX5_pass_30 ⟨Nat.le_refl _, Nat.le_refl _⟩ ⟨rfl, rfl, rfl, _, rfl, ?_⟩
      unfold passF
      simp only [Int.toNat_natCast]
      rw [if_neg (by omega), if_pos (by omega)]
      exact ⟨rfl, hC, Off.rf⟩
  · refine G.bipush X 12 dX5_pass_10 rfl (by decide) ?_
    refine G.iret X dX5_pass_12 ⟨Nat.le_refl _, Nat.le_refl _⟩ ⟨rfl, rfl, rfl, _, rfl, ?_⟩
    unfold passF
    rw [if_pos (by omega)]
    exact ⟨rfl, hC, Off.rf⟩
set_option maxHeartbeats 4000000 in
set_option maxRecDepth 100000 in
theorem c_X5_undo0 (l : Launch) (D : xD) (Bs sz : Nat) (kd : xKd) (rf : xRf) (M : xM) (a : Nat) (r : xR) (sn : Option xR) (t : List Int) (hX : ShX kd rf a) (hC : CSt M a r [] sn t) : CtI l D Bs yX5_undo cX5_undo 1 (some .int) 3 [.ref a] sz kd rf M (fun q M' => q = -5 ∧ M' = M) := by
  refine Ctr.of (yv_X5_undo.1.2.2.2.2) (List.forall_mem_cons.mpr ⟨rfl, fun _ h => absurd h List.not_mem_nil⟩) (Nat.le_of_ble_eq_true rfl) [some (.ref a)] rfl ?_
  intro p e s m args below meth c X hin
  have h2 : M (a + 76) 2 = 0 := by
    obtain ⟨o, ⟨⟨-, -, h2, -⟩, -⟩⟩ := hC.2.1
    exact h2
  refine G.aload_n X 1 dX5_undo_0 rfl rfl ?_
  refine G.getR X fl_X5_29 4 dX5_undo_1 rfl (hX).1 (ShX.r4 hX) ?_
  refine G.aload_n X 5 dX5_undo_4 rfl rfl ?_
  refine G.getR X fl_X5_10 8 dX5_undo_5 rfl (hX).1 (ShX.r0 hX) ?_
  refine G.vI1 (d := 2) X ml_X5_200 yv_X2_popInto 11 dX5_undo_8 rfl (c_X2_popInto0 l D Bs _ kd rf _ (a + 76) (a + 1) ((ShX.hist hX)) ((ShX.now hX)) h2) ⟨_, _, ((ShX.hist hX)).1, rfl, rfl⟩ (by decide) ⟨Nat.zero_le _, Nat.zero_le _⟩ (Nat.le_of_ble_eq_true rfl) (fun r8 M8 h8 => ?_)
  obtain ⟨hr8, hm8⟩ := h8
  subst hr8
  obtain rfl := hm8.symm
  refine G.if_eq X 24 14 dX5_undo_11 (by decide) rfl (by omega) (fun hc11 => ?_) (fun hc11 => ?_)
  · refine G.bipush X 26 dX5_undo_24 rfl (by decide) ?_
    refine G.iret X dX5_undo_26 ⟨Nat.le_refl _, Nat.le_refl _⟩ ⟨rfl, rfl, rfl, _, rfl, ?_⟩
    exact ⟨rfl, rfl⟩
  · exact absurd hc11 (by decide)
set_option maxHeartbeats 4000000 in
set_option maxRecDepth 100000 in
theorem c_X5_undo1 (l : Launch) (D : xD) (Bs sz : Nat) (kd : xKd) (rf : xRf) (M : xM) (a : Nat) (r r0 : xR) (h : List xR) (sn : Option xR) (t : List Int) (hX : ShX kd rf a) (hV : Vr r0) (hB : CB h sn) (hC : CSt M a r (r0 :: h) sn t) : CtI l D Bs yX5_undo cX5_undo 1 (some .int) 3 [.ref a] sz kd rf M (fun q M' => q = (h.length : Int) ∧ CSt M' a r0 h sn t ∧ Off M M' a 215) := by
  refine Ctr.of (yv_X5_undo.1.2.2.2.2) (List.forall_mem_cons.mpr ⟨rfl, fun _ h => absurd h List.not_mem_nil⟩) (Nat.le_of_ble_eq_true rfl) [some (.ref a)] rfl ?_
  intro p e s m args below meth c X hin
  obtain ⟨o, hho⟩ := hC.2.1
  refine G.aload_n X 1 dX5_undo_0 rfl rfl ?_
  refine G.getR X fl_X5_29 4 dX5_undo_1 rfl (hX).1 (ShX.r4 hX) ?_
  refine G.aload_n X 5 dX5_undo_4 rfl rfl ?_
  refine G.getR X fl_X5_10 8 dX5_undo_5 rfl (hX).1 (ShX.r0 hX) ?_
  refine G.vI1 (d := 2) X ml_X5_200 yv_X2_popInto 11 dX5_undo_8 rfl (c_X2_popInto1 l D Bs _ kd rf _ (a + 76) (a + 1) o h r0 ((ShX.hist hX)) ((ShX.now hX)) hV.k hho hB.1 (by omega)) ⟨_, _, ((ShX.hist hX)).1, rfl, rfl⟩ (by decide) ⟨Nat.zero_le _, Nat.zero_le _⟩ (Nat.le_of_ble_eq_true rfl) (fun r8 M8 h8 => ?_)
  obtain ⟨hr8, ⟨hs8, hh8⟩, hn8, ho8⟩ := h8
  subst hr8
  refine G.if_eq X 24 14 dX5_undo_11 (by decide) rfl (by omega) (fun hc11 => ?_) (fun hc11 => ?_)
  · exact absurd hc11 (by decide)
  · refine G.aload_n X 15 dX5_undo_14 rfl rfl ?_
    refine G.getR X fl_X5_29 18 dX5_undo_15 rfl (hX).1 (ShX.r4 hX) ?_
    refine G.getf (v := vi ((h.length : Int))) X fl_X5_204 21 dX5_undo_18 rfl ((ShX.hist hX)).1 ((xV_int (((ShX.hist hX)).2.2.1 2 (by decide))).trans (congrArg vi ?_)) ?_
    · exact hn8
    refine G.goto X 26 dX5_undo_21 (by decide) ?_
    refine G.iret X dX5_undo_26 ⟨Nat.le_refl _, Nat.le_refl _⟩ ⟨rfl, rfl, rfl, _, rfl, ?_⟩
    exact ⟨rfl, ⟨hs8, ⟨o, hh8⟩, by rw [ho8 a (by omega) (by omega)]; exact hC.2.2.1, fun q hq => (hC.2.2.2.1 q hq).off (hB.2 q hq) (fun x _ _ => ho8 x (by omega) (by omega)), hC.2.2.2.2.off (by rw [ho8 _ (by omega) (by omega)]) (ho8 _ (by omega) (by omega))⟩, fun x hx => ho8 x (by omega) (by omega)⟩
set_option maxHeartbeats 4000000 in
set_option maxRecDepth 100000 in
theorem c_X5_keep (l : Launch) (D : xD) (Bs sz : Nat) (kd : xKd) (rf : xRf) (M : xM) (a : Nat) (r : xR) (h : List xR) (sn : Option xR) (t : List Int) (hX : ShX kd rf a) (hV : Vr r) (hB : CB h sn) (hC : CSt M a r h sn t) : CtI l D Bs yX5_keep cX5_keep 1 (some .int) 2 [.ref a] sz kd rf M (fun q M' => q = r 0 ∧ CSt M' a r h (some r) t ∧ Off M M' a 215) := by
  refine Ctr.of (yv_X5_keep.1.2.2.2.2) (List.forall_mem_cons.mpr ⟨rfl, fun _ h => absurd h List.not_mem_nil⟩) (Nat.le_of_ble_eq_true rfl) [some (.ref a)] rfl ?_
  intro p e s m args below meth c X hin
  obtain ⟨hM, ⟨o, hho⟩, hsnf, hsn, htx⟩ := id hC
  have hVk := hV.k
  obtain ⟨n6, n6b⟩ := hV.1.n6
  obtain ⟨n7, n7b⟩ := hV.1.n7
  obtain ⟨hv0, hv1, hv2, hv3, hv6, hv7⟩ := hV.1.1
  obtain ⟨hb0, hb1, hb2, hb3, -, -, -, hb7, hb8⟩ := hM.1
  refine G.aload_n X 1 dX5_keep_0 rfl rfl ?_
  refine G.getR X fl_X5_19 4 dX5_keep_1 rfl (hX).1 (ShX.r2 hX) ?_
  refine G.aload_n X 5 dX5_keep_4 rfl rfl ?_
  refine G.getR X fl_X5_10 8 dX5_keep_5 rfl (hX).1 (ShX.r0 hX) ?_
  refine G.vV1 (d := 1) X ml_X5_207 yv_X4_copyFrom 11 dX5_keep_8 rfl (c_X4_copyFrom l D Bs _ kd rf _ (a + 51) (a + 1) r ((ShX.snap hX)) ((ShX.now hX)) hVk hM (by omega)) ⟨_, _, ((ShX.snap hX)).1, rfl, rfl⟩ (by decide) ⟨Nat.zero_le _, Nat.zero_le _⟩ (Nat.le_of_ble_eq_true rfl) (fun M8 h8 => ?_)
  refine G.aload_n X 12 dX5_keep_11 rfl rfl ?_
  refine G.iconst X 13 dX5_keep_12 rfl ?_
  refine G.putZ X fl_X5_22 fi_5_3 16 dX5_keep_13 rfl (hX).1 (hX).2.1 (Or.inr rfl) ?_
  refine G.aload_n X 17 dX5_keep_16 rfl rfl ?_
  refine G.getR X fl_X5_10 20 dX5_keep_17 rfl (hX).1 (ShX.r0 hX) ?_
  refine G.getf (v := vi (r 0)) X fl_X5_125 23 dX5_keep_20 rfl ((ShX.now hX)).1 ((xV_int (((ShX.now hX)).2.1 0 (by decide))).trans (congrArg vi ?_)) ?_
  · rw [mu_ne (Or.inl (by omega)), h8.2 (a + 1) (by omega)]; exact hb0
  refine G.iret X dX5_keep_23 ⟨Nat.le_refl _, Nat.le_refl _⟩ ⟨rfl, rfl, rfl, _, rfl, ?_⟩
  have hq : ∀ x, x ≠ a → (x < a + 51 ∨ a + 76 ≤ x) → mu M8 a 3 1 x = M x := fun x x1 x2 => (ms_ne x1).trans (h8.2 x (by omega))
  refine ⟨rfl, ⟨hM.off hV.1.bn (fun x _ _ => hq x (by omega) (by omega)), ⟨o, hho.off hB.1 (fun x _ _ => hq x (by omega) (by omega))⟩, mu_same, fun q e => ?_, htx.off (by rw [hq _ (by omega) (by omega)]) (hq _ (by omega) (by omega))⟩, fun x hx => hq x (by omega) (by omega)⟩
  cases e
  exact h8.1.off hV.1.bn (fun x _ _ => ms_ne (by omega))
set_option maxHeartbeats 4000000 in
set_option maxRecDepth 100000 in
theorem c_X5_restore0 (l : Launch) (D : xD) (Bs sz : Nat) (kd : xKd) (rf : xRf) (M : xM) (a : Nat) (r : xR) (h : List xR) (t : List Int) (hX : ShX kd rf a) (hC : CSt M a r h none t) : CtI l D Bs yX5_restore cX5_restore 1 (some .int) 3 [.ref a] sz kd rf M (fun q M' => q = -5 ∧ M' = M) := by
  refine Ctr.of (yv_X5_restore.1.2.2.2.2) (List.forall_mem_cons.mpr ⟨rfl, fun _ h => absurd h List.not_mem_nil⟩) (Nat.le_of_ble_eq_true rfl) [some (.ref a)] rfl ?_
  intro p e s m args below meth c X hin
  refine G.aload_n X 1 dX5_restore_0 rfl rfl ?_
  refine G.getf (v := vi (0)) X fl_X5_22 4 dX5_restore_1 rfl (hX).1 ((xV_int (hX).2.1).trans (congrArg vi ?_)) ?_
  · exact hC.2.2.1
  refine G.if_ne X 10 7 dX5_restore_4 (by decide) rfl (by omega) (fun hc4 => ?_) (fun hc4 => ?_)
  · exact absurd hc4 (by decide)
  · refine G.bipush X 9 dX5_restore_7 rfl (by decide) ?_
    refine G.iret X dX5_restore_9 ⟨Nat.le_refl _, Nat.le_refl _⟩ ⟨rfl, rfl, rfl, _, rfl, ?_⟩
    exact ⟨rfl, rfl⟩
set_option maxHeartbeats 4000000 in
set_option maxRecDepth 100000 in
theorem c_X5_restore1 (l : Launch) (D : xD) (Bs sz : Nat) (kd : xKd) (rf : xRf) (M : xM) (a : Nat) (r r0 : xR) (h : List xR) (t : List Int) (hX : ShX kd rf a) (hV : Vr r) (hV0 : Vr r0) (hB : CB h (some r0)) (hC : CSt M a r h (some r0) t) : CtI l D Bs yX5_restore cX5_restore 1 (some .int) 3 [.ref a] sz kd rf M (fun q M' => q = r0 0 ∧ CSt M' a r0 ((r :: h).take 5) (some r0) t ∧ Off M M' a 215) := by
  refine Ctr.of (yv_X5_restore.1.2.2.2.2) (List.forall_mem_cons.mpr ⟨rfl, fun _ h => absurd h List.not_mem_nil⟩) (Nat.le_of_ble_eq_true rfl) [some (.ref a)] rfl ?_
  intro p e s m args below meth c X hin
  obtain ⟨hM, ⟨o, hho⟩, hsnf, hsn, htx⟩ := id hC
  have hVk := hV.k
  obtain ⟨n6, n6b⟩ := hV.1.n6
  obtain ⟨n7, n7b⟩ := hV.1.n7
  obtain ⟨hv0, hv1, hv2, hv3, hv6, hv7⟩ := hV.1.1
  obtain ⟨hb0, hb1, hb2, hb3, -, -, -, hb7, hb8⟩ := hM.1
  have hs0 := hsn r0 rfl
  refine G.aload_n X 1 dX5_restore_0 rfl rfl ?_
  refine G.getf (v := vi (1)) X fl_X5_22 4 dX5_restore_1 rfl (hX).1 ((xV_int (hX).2.1).trans (congrArg vi ?_)) ?_
  · exact hC.2.2.1
  refine G.if_ne X 10 7 dX5_restore_4 (by decide) rfl (by omega) (fun hc4 => ?_) (fun hc4 => ?_)
  · refine G.aload_n X 11 dX5_restore_10 rfl rfl ?_
    refine G.getR X fl_X5_29 14 dX5_restore_11 rfl (hX).1 (ShX.r4 hX) ?_
    refine G.aload_n X 15 dX5_restore_14 rfl rfl ?_
    refine G.getR X fl_X5_10 18 dX5_restore_15 rfl (hX).1 (ShX.r0 hX) ?_
    refine G.vV1 (d := 2) X ml_X5_53 yv_X2_push 21 dX5_restore_18 rfl (c_X2_push l D Bs _ kd rf _ (a + 76) (a + 1) o h r (ShX.hist hX) (ShX.now hX) hVk hM hho hB.1 (by omega)) ⟨_, _, ((ShX.hist hX)).1, rfl, rfl⟩ (by decide) ⟨Nat.zero_le _, Nat.zero_le _⟩ (Nat.le_of_ble_eq_true rfl) (fun M18 h18 => ?_)
    have hC2 := hC.push hV.1.bn hB h18.1 h18.2
    have hO2 : Off M M18 a 215 := h18.2.mono (by omega)
    have hB2 := hB.push hV.1.bn
    have hM2 := hC2.1
    obtain ⟨hp0, hp1, hp2, hp3, -, hp5, -, hp7, hp8⟩ := hM2.1
    refine G.aload_n X 22 dX5_restore_21 rfl rfl ?_
    refine G.getR X fl_X5_10 25 dX5_restore_22 rfl (hX).1 (ShX.r0 hX) ?_
    refine G.aload_n X 26 dX5_restore_25 rfl rfl ?_
    refine G.getR X fl_X5_19 29 dX5_restore_26 rfl (hX).1 (ShX.r2 hX) ?_
    refine G.vV1 (d := 1) X ml_X5_207 yv_X4_copyFrom 32 dX5_restore_29 rfl (c_X4_copyFrom l D Bs _ kd rf _ (a + 1) (a + 51) r0 ((ShX.now hX)) ((ShX.snap hX)) hV0.k (hC2.2.2.2.1 r0 rfl) (by omega)) ⟨_, _, ((ShX.now hX)).1, rfl, rfl⟩ (by decide) ⟨Nat.zero_le _, Nat.zero_le _⟩ (Nat.le_of_ble_eq_true rfl) (fun M29 h29 => ?_)
    refine G.aload_n X 33 dX5_restore_32 rfl rfl ?_
    refine G.getR X fl_X5_10 36 dX5_restore_33 rfl (hX).1 (ShX.r0 hX) ?_
    refine G.getf (v := vi (r0 0)) X fl_X5_125 39 dX5_restore_36 rfl ((ShX.now hX)).1 ((xV_int (((ShX.now hX)).2.1 0 (by decide))).trans (congrArg vi ?_)) ?_
    · exact h29.1.1.1
    refine G.iret X dX5_restore_39 ⟨Nat.le_refl _, Nat.le_refl _⟩ ⟨rfl, rfl, rfl, _, rfl, ?_⟩
    exact ⟨rfl, hC2.now hB2 h29.1 h29.2, hO2.trans (h29.2.mono (by omega))⟩
  · exact absurd hc4 (by decide)
