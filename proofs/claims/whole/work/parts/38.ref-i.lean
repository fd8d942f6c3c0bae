set_option maxHeartbeats 1000000 in
set_option maxRecDepth 100000 in
theorem c_X6_fill (l : Launch) (D : xD) (Bs sz : Nat) (kd : xKd) (rf : xRf) (M : xM) (y : Nat) (h : List xR) (sn : Option xR) (t : List Int) (x : Int) (hY : ShY kd rf y) (hW : Vr (M (y + 1))) (hM : MSt M y (M (y + 1)) h sn t) (r0 : IR x) : CtI l D Bs yX6_fill cX6_fill 3 (some .int) 2 [.ref y, vi x] sz kd rf M (fun q M' => q = (fillF x (M (y + 1))).1 ∧ MSt M' y (actR (fillF x (M (y + 1))).2 (M (y + 1))) (actH (fillF x (M (y + 1))).2 (M (y + 1)) h) sn t ∧ Off M M' y 8) := by
  refine Ctr.of (yv_X6_fill.1.2.2.2.2) (List.forall_mem_cons.mpr ⟨rfl, List.forall_mem_cons.mpr ⟨rfl, fun _ h => absurd h List.not_mem_nil⟩⟩) (Nat.le_of_ble_eq_true rfl) [some (.ref y), some (vi x), none] rfl ?_
  intro p e s m args below meth c X hin
  have hV := hW.k
  obtain ⟨n6, n6b⟩ := hV.n6
  obtain ⟨n7, n7b⟩ := hV.n7
  obtain ⟨hv0, hv1, hv2, hv3, -, -⟩ := hV.1
  refine G.aload_n X 1 dX6_fill_0 rfl rfl ?_
  refine G.iload_n X 2 dX6_fill_1 rfl rfl ?_
  refine G.vI1 (d := 1) X ml_X6_52 yv_X6_noSet 5 dX6_fill_2 rfl (c_X6_noSet l D Bs _ kd rf _ y _ hY hV (by omega)) ⟨_, _, (hY).1, rfl, rfl⟩ (by decide) ⟨Nat.zero_le _, Nat.zero_le _⟩ (Nat.le_of_ble_eq_true rfl) (fun r2 M2 h2 => ?_)
  obtain ⟨hr2, hm2⟩ := h2
  subst hr2
  obtain rfl := hm2.symm
  refine G.ifb_eq X 10 8 dX6_fill_5 (by decide) rfl (fun hc5 => ?_) (fun hc5 => ?_)
  · obtain ⟨u, rfl⟩ : ∃ u : Nat, x = (u : Int) := ⟨x.toNat, by omega⟩
    obtain ⟨-, v1, -, -, v4, v5, -, -⟩ := hV.2.1 (u) (by omega)
    refine G.aload_n X 11 dX6_fill_10 rfl rfl ?_
    refine G.iload_n X 12 dX6_fill_11 rfl rfl ?_
    refine G.iconst X 13 dX6_fill_12 rfl ?_
    refine G.vI2 (d := 0) X ml_X6_48 yv_X6_ofSet 16 dX6_fill_13 rfl (c_X6_ofSet l D Bs _ kd rf _ y u 5 hY (by omega) (by decide)) ⟨_, _, (hY).1, rfl, rfl⟩ (by decide) ⟨Nat.zero_le _, Nat.zero_le _⟩ (Nat.le_of_ble_eq_true rfl) (fun r13 M13 h13 => ?_)
    obtain ⟨hr13, hm13⟩ := h13
    subst hr13
    obtain rfl := hm13.symm
    refine G.if_le X 22 19 dX6_fill_16 (by decide) rfl (by omega) (fun hc16 => ?_) (fun hc16 => ?_)
    · refine G.aload_n X 23 dX6_fill_22 rfl rfl ?_
      refine G.iload_n X 24 dX6_fill_23 rfl rfl ?_
      refine G.vI1 (d := 1) X ml_X6_56 yv_X6_roomIn 27 dX6_fill_24 rfl (c_X6_roomIn l D Bs _ kd rf _ y u hY (by omega)) ⟨_, _, (hY).1, rfl, rfl⟩ (by decide) ⟨Nat.zero_le _, Nat.zero_le _⟩ (Nat.le_of_ble_eq_true rfl) (fun r24 M24 h24 => ?_)
      obtain ⟨hr24, hm24⟩ := h24
      subst hr24
      obtain rfl := hm24.symm
      refine G.aload_n X 28 dX6_fill_27 rfl rfl ?_
      refine G.getR X fl_X6_7 31 dX6_fill_28 rfl (hY).1 (ShY.r0 hY) ?_
      refine G.iconst X 32 dX6_fill_31 rfl ?_
      refine G.iald X (i := 3) 33 dX6_fill_32 rfl ((ShY.a0 hY)).1 (((ShY.a0 hY)).2 _) rfl (by omega) (by decide) ?_
      refine G.sI2 (d := 0) X ml_X6_60 ys_X6_least 36 dX6_fill_33 rfl (c_X6_least l D Bs _ kd rf _ _ _ (by omega) (by omega)) (by decide) ⟨Nat.zero_le _, Nat.zero_le _⟩ (Nat.le_of_ble_eq_true rfl) (fun r33 M33 h33 => ?_)
      obtain ⟨hr33, hm33⟩ := h33
      have hl33 : r33 = litF (M (y + 1)) u := by
        rw [hr33]
        unfold lessI litF
        split <;> split <;> omega
      have hb33 : 0 ≤ r33 ∧ r33 ≤ 50000 := by
        rw [hr33]
        unfold lessI
        split <;> omega
      clear hr33
      obtain rfl := hm33.symm
      refine G.istore_n (ls' := [_, _, _]) X 37 dX6_fill_36 rfl (by decide) rfl ?_
      refine G.iload_n X 38 dX6_fill_37 rfl rfl ?_
      refine G.if_ne X 44 41 dX6_fill_38 (by decide) rfl (by omega) (fun hc38 => ?_) (fun hc38 => ?_)
      · refine G.aload_n X 45 dX6_fill_44 rfl rfl ?_
        refine G.vV0 (d := 0) X ml_X6_41 yv_X6_record 48 dX6_fill_45 rfl (c_X6_record l D Bs _ kd rf _ y h hY hM.2.1) ⟨_, _, (hY).1, rfl, rfl⟩ (by decide) ⟨Nat.zero_le _, Nat.zero_le _⟩ (Nat.le_of_ble_eq_true rfl) (fun M45 h45 => ?_)
        have e45 : M45 (y + 1) = M (y + 1) := h45.2.1 _ (by omega) (by omega)
        refine G.aload_n X 49 dX6_fill_48 rfl rfl ?_
        refine G.iload_n X 50 dX6_fill_49 rfl rfl ?_
        refine G.iload_n X 51 dX6_fill_50 rfl rfl ?_
        refine G.vV2 (d := 1) X ml_X6_63 yv_X6_fills 54 dX6_fill_51 rfl (c_X6_fills l D Bs _ kd rf _ y u _ hY (by omega)) ⟨_, _, (hY).1, rfl, rfl⟩ (by decide) ⟨Nat.zero_le _, Nat.zero_le _⟩ (Nat.le_of_ble_eq_true rfl) (fun M51 h51 => ?_)
        subst h51
        try simp only [ms_same, ms_ms]
        refine G.iload_n X 55 dX6_fill_54 rfl rfl ?_
        refine G.iret X dX6_fill_55 ⟨Nat.le_refl _, Nat.le_refl _⟩ ⟨rfl, rfl, rfl, _, rfl, ?_⟩
        unfold fillF
        simp only [Int.toNat_natCast]
        rw [if_neg (by omega), if_neg (by omega), if_neg (by omega)]
        refine ⟨hl33, hM.act h45 (fillR (M (y + 1)) u (litF (M (y + 1)) u)) ?_⟩
        rw [e45, hl33]
      · refine G.bipush X 43 dX6_fill_41 rfl (by decide) ?_
        refine G.iret X dX6_fill_43 ⟨Nat.le_refl _, Nat.le_refl _⟩ ⟨rfl, rfl, rfl, _, rfl, ?_⟩
        unfold fillF
        simp only [Int.toNat_natCast]
        rw [if_neg (by omega), if_neg (by omega), if_pos (by omega)]
        exact ⟨rfl, hM, Off.rf⟩
    · refine G.bipush X 21 dX6_fill_19 rfl (by decide) ?_
      refine G.iret X dX6_fill_21 ⟨Nat.le_refl _, Nat.le_refl _⟩ ⟨rfl, rfl, rfl, _, rfl, ?_⟩
      unfold fillF
      simp only [Int.toNat_natCast]
      rw [if_neg (by omega), if_pos (by omega)]
      exact ⟨rfl, hM, Off.rf⟩
  · refine G.iconst X 9 dX6_fill_8 rfl ?_
    refine G.iret X dX6_fill_9 ⟨Nat.le_refl _, Nat.le_refl _⟩ ⟨rfl, rfl, rfl, _, rfl, ?_⟩
    unfold fillF
    rw [if_pos (by omega)]
    exact ⟨rfl, hM, Off.rf⟩
set_option maxHeartbeats 1000000 in
set_option maxRecDepth 100000 in
theorem c_X6_addSite (l : Launch) (D : xD) (Bs sz : Nat) (kd : xKd) (rf : xRf) (M : xM) (y : Nat) (h : List xR) (sn : Option xR) (t : List Int) (x0 : Int) (x1 : Int) (x2 : Int) (x3 : Int) (hY : ShY kd rf y) (hW : Vr (M (y + 1))) (hM : MSt M y (M (y + 1)) h sn t) (r0 : IR x0) (r1 : IR x1) (r2 : IR x2) (r3 : IR x3) : CtI l D Bs yX6_addSite cX6_addSite 5 (some .int) 2 [.ref y, vi x0, vi x1, vi x2, vi x3] sz kd rf M (fun q M' => q = (addSiteF x0 x1 x2 x3 (M (y + 1))).1 ∧ MSt M' y (actR (addSiteF x0 x1 x2 x3 (M (y + 1))).2 (M (y + 1))) (actH (addSiteF x0 x1 x2 x3 (M (y + 1))).2 (M (y + 1)) h) sn t ∧ Off M M' y 8) := by
  refine Ctr.of (yv_X6_addSite.1.2.2.2.2) (List.forall_mem_cons.mpr ⟨rfl, List.forall_mem_cons.mpr ⟨rfl, List.forall_mem_cons.mpr ⟨rfl, List.forall_mem_cons.mpr ⟨rfl, List.forall_mem_cons.mpr ⟨rfl, fun _ h => absurd h List.not_mem_nil⟩⟩⟩⟩⟩) (Nat.le_of_ble_eq_true rfl) [some (.ref y), some (vi x0), some (vi x1), some (vi x2), some (vi x3)] rfl ?_
  intro p e s m args below meth c X hin
  have hV := hW.k
  obtain ⟨n6, n6b⟩ := hV.n6
  obtain ⟨n7, n7b⟩ := hV.n7
  obtain ⟨hv0, hv1, hv2, hv3, -, -⟩ := hV.1
  refine G.iload_n X 1 dX6_addSite_0 rfl rfl ?_
  refine G.iconst X 2 dX6_addSite_1 rfl ?_
  refine G.bipush X 4 dX6_addSite_2 rfl (by decide) ?_
  refine G.sI3 (d := 0) X ml_X6_36 ys_X6_in 7 dX6_addSite_4 rfl (c_X6_in l D Bs _ kd rf _ _ _ _ (by omega) (by omega) (by omega)) (by decide) ⟨Nat.zero_le _, Nat.zero_le _⟩ (Nat.le_of_ble_eq_true rfl) (fun r4 M4 h4 => ?_)
  obtain ⟨hr4, hm4⟩ := h4
  subst hr4
  obtain rfl := hm4.symm
  refine G.ifb_eq X 30 10 dX6_addSite_7 (by decide) rfl (fun hc7 => ?_) (fun hc7 => ?_)
  · refine G.bipush X 32 dX6_addSite_30 rfl (by decide) ?_
    refine G.iret X dX6_addSite_32 ⟨Nat.le_refl _, Nat.le_refl _⟩ ⟨rfl, rfl, rfl, _, rfl, ?_⟩
    unfold addSiteF
    rw [if_pos (by omega)]
    exact ⟨rfl, hM, Off.rf⟩
  · refine G.iload_n X 11 dX6_addSite_10 rfl rfl ?_
    refine G.iconst X 12 dX6_addSite_11 rfl ?_
    refine G.bipush X 14 dX6_addSite_12 rfl (by decide) ?_
    refine G.sI3 (d := 0) X ml_X6_36 ys_X6_in 17 dX6_addSite_14 rfl (c_X6_in l D Bs _ kd rf _ _ _ _ (by omega) (by omega) (by omega)) (by decide) ⟨Nat.zero_le _, Nat.zero_le _⟩ (Nat.le_of_ble_eq_true rfl) (fun r14 M14 h14 => ?_)
    obtain ⟨hr14, hm14⟩ := h14
    subst hr14
    obtain rfl := hm14.symm
    refine G.ifb_eq X 30 20 dX6_addSite_17 (by decide) rfl (fun hc17 => ?_) (fun hc17 => ?_)
    · refine G.bipush X 32 dX6_addSite_30 rfl (by decide) ?_
      refine G.iret X dX6_addSite_32 ⟨Nat.le_refl _, Nat.le_refl _⟩ ⟨rfl, rfl, rfl, _, rfl, ?_⟩
      unfold addSiteF
      rw [if_pos (by omega)]
      exact ⟨rfl, hM, Off.rf⟩
    · refine G.aload_n X 21 dX6_addSite_20 rfl rfl ?_
      refine G.iload_n X 22 dX6_addSite_21 rfl rfl ?_
      refine G.iload X 24 dX6_addSite_22 rfl rfl ?_
      refine G.vI2 (d := 1) X ml_X6_70 yv_X6_areHours 27 dX6_addSite_24 rfl (c_X6_areHours l D Bs _ kd rf _ y _ _ hY hV (by omega) (by omega)) ⟨_, _, (hY).1, rfl, rfl⟩ (by decide) ⟨Nat.zero_le _, Nat.zero_le _⟩ (Nat.le_of_ble_eq_true rfl) (fun r24 M24 h24 => ?_)
      obtain ⟨hr24, hm24⟩ := h24
      subst hr24
      obtain rfl := hm24.symm
      refine G.ifb_ne X 33 30 dX6_addSite_27 (by decide) rfl (fun hc27 => ?_) (fun hc27 => ?_)
      · refine G.aload_n X 34 dX6_addSite_33 rfl rfl ?_
        refine G.getR X fl_X6_7 37 dX6_addSite_34 rfl (hY).1 (ShY.r0 hY) ?_
        refine G.bipush X 39 dX6_addSite_37 rfl (by decide) ?_
        refine G.iald X (i := 7) 40 dX6_addSite_39 rfl ((ShY.a0 hY)).1 (((ShY.a0 hY)).2 _) rfl (by omega) (by decide) ?_
        refine G.bipush X 42 dX6_addSite_40 rfl (by decide) ?_
        refine G.icmp_ne X 48 45 dX6_addSite_42 (by decide) rfl (by omega) (by omega) (fun hc42 => ?_) (fun hc42 => ?_)
        · refine G.aload_n X 49 dX6_addSite_48 rfl rfl ?_
          refine G.vV0 (d := 0) X ml_X6_41 yv_X6_record 52 dX6_addSite_49 rfl (c_X6_record l D Bs _ kd rf _ y h hY hM.2.1) ⟨_, _, (hY).1, rfl, rfl⟩ (by decide) ⟨Nat.zero_le _, Nat.zero_le _⟩ (Nat.le_of_ble_eq_true rfl) (fun M49 h49 => ?_)
          have e49 : M49 (y + 1) = M (y + 1) := h49.2.1 _ (by omega) (by omega)
          refine G.aload_n X 53 dX6_addSite_52 rfl rfl ?_
          refine G.iload_n X 54 dX6_addSite_53 rfl rfl ?_
          refine G.iload_n X 55 dX6_addSite_54 rfl rfl ?_
          refine G.iload_n X 56 dX6_addSite_55 rfl rfl ?_
          refine G.iload X 58 dX6_addSite_56 rfl rfl ?_
          refine G.vI4 (d := 1) X ml_X6_74 yv_X6_adds 61 dX6_addSite_58 rfl (c_X6_adds l D Bs _ kd rf _ y _ _ _ _ hY (by rw [e49]; exact hV) (by rw [e49]; omega)) ⟨_, _, (hY).1, rfl, rfl⟩ (by decide) ⟨Nat.zero_le _, Nat.zero_le _⟩ (Nat.le_of_ble_eq_true rfl) (fun r58 M58 h58 => ?_)
          rw [e49] at h58
          obtain ⟨hr58, hm58⟩ := h58
          subst hr58 hm58
          refine G.iret X dX6_addSite_61 ⟨Nat.le_refl _, Nat.le_refl _⟩ ⟨rfl, rfl, rfl, _, rfl, ?_⟩
          unfold addSiteF
          rw [if_neg (by omega), if_neg (by omega)]
          exact ⟨n7.symm, hM.act h49 (addSiteR (M (y + 1)) x0 x1 x2 x3) rfl⟩
        · refine G.bipush X 47 dX6_addSite_45 rfl (by decide) ?_
          refine G.iret X dX6_addSite_47 ⟨Nat.le_refl _, Nat.le_refl _⟩ ⟨rfl, rfl, rfl, _, rfl, ?_⟩
          unfold addSiteF
          rw [if_neg (by omega), if_pos (by omega)]
          exact ⟨rfl, hM, Off.rf⟩
      · refine G.bipush X 32 dX6_addSite_30 rfl (by decide) ?_
        refine G.iret X dX6_addSite_32 ⟨Nat.le_refl _, Nat.le_refl _⟩ ⟨rfl, rfl, rfl, _, rfl, ?_⟩
        unfold addSiteF
        rw [if_pos (by omega)]
        exact ⟨rfl, hM, Off.rf⟩
set_option maxHeartbeats 1000000 in
set_option maxRecDepth 100000 in
theorem c_X6_takeBack (l : Launch) (D : xD) (Bs sz : Nat) (kd : xKd) (rf : xRf) (M : xM) (y : Nat) (h : List xR) (sn : Option xR) (t : List Int) (x : Int) (hY : ShY kd rf y) (hW : Vr (M (y + 1))) (hM : MSt M y (M (y + 1)) h sn t) (r0 : IR x) : CtI l D Bs yX6_takeBack cX6_takeBack 3 (some .int) 3 [.ref y, vi x] sz kd rf M (fun q M' => q = (takeF x (M (y + 1))).1 ∧ MSt M' y (actR (takeF x (M (y + 1))).2 (M (y + 1))) (actH (takeF x (M (y + 1))).2 (M (y + 1)) h) sn t ∧ Off M M' y 8) := by
  refine Ctr.of (yv_X6_takeBack.1.2.2.2.2) (List.forall_mem_cons.mpr ⟨rfl, List.forall_mem_cons.mpr ⟨rfl, fun _ h => absurd h List.not_mem_nil⟩⟩) (Nat.le_of_ble_eq_true rfl) [some (.ref y), some (vi x), none] rfl ?_
  intro p e s m args below meth c X hin
  have hV := hW.k
  obtain ⟨n6, n6b⟩ := hV.n6
  obtain ⟨n7, n7b⟩ := hV.n7
  obtain ⟨hv0, hv1, hv2, hv3, -, -⟩ := hV.1
  refine G.aload_n X 1 dX6_takeBack_0 rfl rfl ?_
  refine G.iload_n X 2 dX6_takeBack_1 rfl rfl ?_
  refine G.vI1 (d := 1) X ml_X6_84 yv_X6_noSite 5 dX6_takeBack_2 rfl (c_X6_noSite l D Bs _ kd rf _ y _ hY hV (by omega)) ⟨_, _, (hY).1, rfl, rfl⟩ (by decide) ⟨Nat.zero_le _, Nat.zero_le _⟩ (Nat.le_of_ble_eq_true rfl) (fun r2 M2 h2 => ?_)
  obtain ⟨hr2, hm2⟩ := h2
  subst hr2
  obtain rfl := hm2.symm
  refine G.ifb_eq X 10 8 dX6_takeBack_5 (by decide) rfl (fun hc5 => ?_) (fun hc5 => ?_)
  · obtain ⟨j, rfl⟩ : ∃ j : Nat, x = (j : Int) := ⟨x.toNat, by omega⟩
    obtain ⟨-, -, -, -, w4, -, -⟩ := hV.2.2 (j) (by omega)
    refine G.aload_n X 11 dX6_takeBack_10 rfl rfl ?_
    refine G.iload_n X 12 dX6_takeBack_11 rfl rfl ?_
    refine G.vI1 (d := 1) X ml_X6_81 yv_X6_setAt 15 dX6_takeBack_12 rfl (c_X6_setAt l D Bs _ kd rf _ y j hY (by omega)) ⟨_, _, (hY).1, rfl, rfl⟩ (by decide) ⟨Nat.zero_le _, Nat.zero_le _⟩ (Nat.le_of_ble_eq_true rfl) (fun r12 M12 h12 => ?_)
    obtain ⟨hr12, hm12⟩ := h12
    subst hr12
    obtain rfl := hm12.symm
    refine G.istore_n (ls' := [_, _, _]) X 16 dX6_takeBack_15 rfl (by decide) rfl ?_
    refine G.iload_n X 17 dX6_takeBack_16 rfl rfl ?_
    refine G.if_ge X 23 20 dX6_takeBack_17 (by decide) rfl (by omega) (fun hc17 => ?_) (fun hc17 => ?_)
    · refine G.aload_n X 24 dX6_takeBack_23 rfl rfl ?_
      refine G.vV0 (d := 0) X ml_X6_41 yv_X6_record 27 dX6_takeBack_24 rfl (c_X6_record l D Bs _ kd rf _ y h hY hM.2.1) ⟨_, _, (hY).1, rfl, rfl⟩ (by decide) ⟨Nat.zero_le _, Nat.zero_le _⟩ (Nat.le_of_ble_eq_true rfl) (fun M24 h24 => ?_)
      have e24 : M24 (y + 1) = M (y + 1) := h24.2.1 _ (by omega) (by omega)
      refine G.aload_n X 28 dX6_takeBack_27 rfl rfl ?_
      refine G.iload_n X 29 dX6_takeBack_28 rfl rfl ?_
      refine G.vV1 (d := 2) X ml_X6_97 yv_X6_goesBack 32 dX6_takeBack_29 rfl (c_X6_goesBack l D Bs _ kd rf _ y j hY (by rw [e24]; exact hV) (by rw [e24]; omega) (by rw [e24]; omega)) ⟨_, _, (hY).1, rfl, rfl⟩ (by decide) ⟨Nat.zero_le _, Nat.zero_le _⟩ (Nat.le_of_ble_eq_true rfl) (fun M29 h29 => ?_)
      rw [e24] at h29
      subst h29
      refine G.iload_n X 33 dX6_takeBack_32 rfl rfl ?_
      refine G.iret X dX6_takeBack_33 ⟨Nat.le_refl _, Nat.le_refl _⟩ ⟨rfl, rfl, rfl, _, rfl, ?_⟩
      unfold takeF
      simp only [Int.toNat_natCast]
      rw [if_neg (by omega), if_neg (by omega)]
      exact ⟨rfl, hM.act h24 (backR (M (y + 1)) j) rfl⟩
    · refine G.bipush X 22 dX6_takeBack_20 rfl (by decide) ?_
      refine G.iret X dX6_takeBack_22 ⟨Nat.le_refl _, Nat.le_refl _⟩ ⟨rfl, rfl, rfl, _, rfl, ?_⟩
      unfold takeF
      simp only [Int.toNat_natCast]
      rw [if_neg (by omega), if_pos (by omega)]
      exact ⟨rfl, hM, Off.rf⟩
  · refine G.iconst X 9 dX6_takeBack_8 rfl ?_
    refine G.iret X dX6_takeBack_9 ⟨Nat.le_refl _, Nat.le_refl _⟩ ⟨rfl, rfl, rfl, _, rfl, ?_⟩
    unfold takeF
    rw [if_pos (by omega)]
    exact ⟨rfl, hM, Off.rf⟩
set_option maxHeartbeats 1000000 in
set_option maxRecDepth 100000 in
theorem c_X6_pass (l : Launch) (D : xD) (Bs sz : Nat) (kd : xKd) (rf : xRf) (M : xM) (y : Nat) (h : List xR) (sn : Option xR) (t : List Int) (x : Int) (hY : ShY kd rf y) (hW : Vr (M (y + 1))) (hM : MSt M y (M (y + 1)) h sn t) (r0 : IR x) : CtI l D Bs yX6_pass cX6_pass 2 (some .int) 5 [.ref y, vi x] sz kd rf M (fun q M' => q = (passF x (M (y + 1))).1 ∧ MSt M' y (actR (passF x (M (y + 1))).2 (M (y + 1))) (actH (passF x (M (y + 1))).2 (M (y + 1)) h) sn t ∧ Off M M' y 8) := by
  refine Ctr.of (yv_X6_pass.1.2.2.2.2) (List.forall_mem_cons.mpr ⟨rfl, List.forall_mem_cons.mpr ⟨rfl, fun _ h => absurd h List.not_mem_nil⟩⟩) (Nat.le_of_ble_eq_true rfl) [some (.ref y), some (vi x)] rfl ?_
  intro p e s m args below meth c X hin
  have hV := hW.k
  obtain ⟨n6, n6b⟩ := hV.n6
  obtain ⟨n7, n7b⟩ := hV.n7
  obtain ⟨hv0, hv1, hv2, hv3, -, -⟩ := hV.1
  refine G.iload_n X 1 dX6_pass_0 rfl rfl ?_
  refine G.iconst X 2 dX6_pass_1 rfl ?_
  refine G.bipush X 4 dX6_pass_2 rfl (by decide) ?_
  refine G.sI3 (d := 0) X ml_X6_36 ys_X6_in 7 dX6_pass_4 rfl (c_X6_in l D Bs _ kd rf _ _ _ _ (by omega) (by omega) (by omega)) (by decide) ⟨Nat.zero_le _, Nat.zero_le _⟩ (Nat.le_of_ble_eq_true rfl) (fun r4 M4 h4 => ?_)
  obtain ⟨hr4, hm4⟩ := h4
  subst hr4
  obtain rfl := hm4.symm
  refine G.ifb_ne X 13 10 dX6_pass_7 (by decide) rfl (fun hc7 => ?_) (fun hc7 => ?_)
  · refine G.aload_n X 14 dX6_pass_13 rfl rfl ?_
    refine G.getR X fl_X6_7 17 dX6_pass_14 rfl (hY).1 (ShY.r0 hY) ?_
    refine G.iconst X 18 dX6_pass_17 rfl ?_
    refine G.iald X (i := 0) 19 dX6_pass_18 rfl ((ShY.a0 hY)).1 (((ShY.a0 hY)).2 _) rfl (by omega) (by decide) ?_
    refine G.iload_n X 20 dX6_pass_19 rfl rfl ?_
    refine G.iadd X 21 dX6_pass_20 rfl ?_
    refine G.sipush X 24 dX6_pass_21 rfl (by decide) ?_
    refine G.icmp_le X 30 27 dX6_pass_24 (by decide) rfl (by omega) (by omega) (fun hc24 => ?_) (fun hc24 => ?_)
    · obtain ⟨u, rfl⟩ : ∃ u : Nat, x = (u : Int) := ⟨x.toNat, by omega⟩
      refine G.aload_n X 31 dX6_pass_30 rfl rfl ?_
      refine G.vV0 (d := 0) X ml_X6_41 yv_X6_record 34 dX6_pass_31 rfl (c_X6_record l D Bs _ kd rf _ y h hY hM.2.1) ⟨_, _, (hY).1, rfl, rfl⟩ (by decide) ⟨Nat.zero_le _, Nat.zero_le _⟩ (Nat.le_of_ble_eq_true rfl) (fun M31 h31 => ?_)
      have e31 : M31 (y + 1) = M (y + 1) := h31.2.1 _ (by omega) (by omega)
      refine G.aload_n X 35 dX6_pass_34 rfl rfl ?_
      refine G.iload_n X 36 dX6_pass_35 rfl rfl ?_
      refine G.vI1 (d := 4) X ml_X6_137 yv_X6_goesOnFor 39 dX6_pass_36 rfl (c_X6_goesOnFor l D Bs _ kd rf _ y u hY (by rw [e31]; exact hW) (by rw [e31]; omega)) ⟨_, _, (hY).1, rfl, rfl⟩ (by decide) ⟨Nat.zero_le _, Nat.zero_le _⟩ (Nat.le_of_ble_eq_true rfl) (fun r36 M36 h36 => ?_)
      obtain ⟨hr36, hm36⟩ := h36
      rw [e31] at hr36 hm36
      subst hr36 hm36
      refine G.iret X dX6_pass_39 ⟨Nat.le_refl _, Nat.le_refl _⟩ ⟨rfl, rfl, rfl, _, rfl, ?_⟩
      unfold passF
      rw [if_neg (by omega), if_neg (by omega)]
      simp only [Int.toNat_natCast]
      exact ⟨by first | trivial | rfl, hM.act h31 (hoursR (M (y + 1)) u) rfl⟩
    · refine G.bipush X 29 dX6_pass_27 rfl (by decide) ?_
      refine G.iret X dX6_pass_29 ⟨Nat.le_refl _, Nat.le_refl _⟩ ⟨rfl, rfl, rfl, _, rfl, ?_⟩
      unfold passF
      rw [if_neg (by omega), if_pos (by omega)]
      exact ⟨rfl, hM, Off.rf⟩
  · refine G.bipush X 12 dX6_pass_10 rfl (by decide) ?_
    refine G.iret X dX6_pass_12 ⟨Nat.le_refl _, Nat.le_refl _⟩ ⟨rfl, rfl, rfl, _, rfl, ?_⟩
    unfold passF
    rw [if_pos (by omega)]
    exact ⟨rfl, hM, Off.rf⟩
set_option maxHeartbeats 1000000 in
set_option maxRecDepth 100000 in
theorem c_X6_addSet (l : Launch) (D : xD) (Bs sz : Nat) (kd : xKd) (rf : xRf) (M : xM) (y : Nat) (h : List xR) (sn : Option xR) (t : List Int) (x0 : Int) (x1 : Int) (x2 : Int) (x3 : Int) (hY : ShY kd rf y) (hW : Vr (M (y + 1))) (hM : MSt M y (M (y + 1)) h sn t) (r0 : IR x0) (r1 : IR x1) (r2 : IR x2) (r3 : IR x3) : CtI l D Bs yX6_addSet cX6_addSet 7 (some .int) 1 [.ref y, vi x0, vi x1, vi x2, vi x3] sz kd rf M (fun q M' => q = (addSetF x0 x1 x2 x3 (M (y + 1))).1 ∧ MSt M' y (actR (addSetF x0 x1 x2 x3 (M (y + 1))).2 (M (y + 1))) (actH (addSetF x0 x1 x2 x3 (M (y + 1))).2 (M (y + 1)) h) sn t ∧ Off M M' y 8) := by
  refine Ctr.of (yv_X6_addSet.1.2.2.2.2) (List.forall_mem_cons.mpr ⟨rfl, List.forall_mem_cons.mpr ⟨rfl, List.forall_mem_cons.mpr ⟨rfl, List.forall_mem_cons.mpr ⟨rfl, List.forall_mem_cons.mpr ⟨rfl, fun _ h => absurd h List.not_mem_nil⟩⟩⟩⟩⟩) (Nat.le_of_ble_eq_true rfl) [some (.ref y), some (vi x0), some (vi x1), some (vi x2), some (vi x3), none, none] rfl ?_
  intro p e s m args below meth c X hin
  have hV := hW.k
  obtain ⟨n6, n6b⟩ := hV.n6
  obtain ⟨n7, n7b⟩ := hV.n7
  obtain ⟨hv0, hv1, hv2, hv3, -, -⟩ := hV.1
  refine G.iload_n X 1 dX6_addSet_0 rfl rfl ?_
  refine G.iconst X 2 dX6_addSet_1 rfl ?_
  refine G.bipush X 4 dX6_addSet_2 rfl (by decide) ?_
  refine G.sI3 (d := 0) X ml_X6_36 ys_X6_in 7 dX6_addSet_4 rfl (c_X6_in l D Bs _ kd rf _ _ _ _ (by omega) (by omega) (by omega)) (by decide) ⟨Nat.zero_le _, Nat.zero_le _⟩ (Nat.le_of_ble_eq_true rfl) (fun r4 M4 h4 => ?_)
  obtain ⟨hr4, hm4⟩ := h4
  subst hr4
  obtain rfl := hm4.symm
  refine G.ifb_eq X 49 10 dX6_addSet_7 (by decide) rfl (fun hc7 => ?_) (fun hc7 => ?_)
  · refine G.bipush X 51 dX6_addSet_49 rfl (by decide) ?_
    refine G.iret X dX6_addSet_51 ⟨Nat.le_refl _, Nat.le_refl _⟩ ⟨rfl, rfl, rfl, _, rfl, ?_⟩
    unfold addSetF
    rw [if_pos (by omega)]
    exact ⟨rfl, hM, Off.rf⟩
  · refine G.iload_n X 11 dX6_addSet_10 rfl rfl ?_
    refine G.bipush X 13 dX6_addSet_11 rfl (by decide) ?_
    refine G.sipush X 16 dX6_addSet_13 rfl (by decide) ?_
    refine G.sI3 (d := 0) X ml_X6_36 ys_X6_in 19 dX6_addSet_16 rfl (c_X6_in l D Bs _ kd rf _ _ _ _ (by omega) (by omega) (by omega)) (by decide) ⟨Nat.zero_le _, Nat.zero_le _⟩ (Nat.le_of_ble_eq_true rfl) (fun r16 M16 h16 => ?_)
    obtain ⟨hr16, hm16⟩ := h16
    subst hr16
    obtain rfl := hm16.symm
    refine G.ifb_eq X 49 22 dX6_addSet_19 (by decide) rfl (fun hc19 => ?_) (fun hc19 => ?_)
    · refine G.bipush X 51 dX6_addSet_49 rfl (by decide) ?_
      refine G.iret X dX6_addSet_51 ⟨Nat.le_refl _, Nat.le_refl _⟩ ⟨rfl, rfl, rfl, _, rfl, ?_⟩
      unfold addSetF
      rw [if_pos (by omega)]
      exact ⟨rfl, hM, Off.rf⟩
    · refine G.iload_n X 23 dX6_addSet_22 rfl rfl ?_
      refine G.iconst X 24 dX6_addSet_23 rfl ?_
      refine G.bipush X 26 dX6_addSet_24 rfl (by decide) ?_
      refine G.sI3 (d := 0) X ml_X6_36 ys_X6_in 29 dX6_addSet_26 rfl (c_X6_in l D Bs _ kd rf _ _ _ _ (by omega) (by omega) (by omega)) (by decide) ⟨Nat.zero_le _, Nat.zero_le _⟩ (Nat.le_of_ble_eq_true rfl) (fun r26 M26 h26 => ?_)
      obtain ⟨hr26, hm26⟩ := h26
      subst hr26
      obtain rfl := hm26.symm
      refine G.ifb_eq X 49 32 dX6_addSet_29 (by decide) rfl (fun hc29 => ?_) (fun hc29 => ?_)
      · refine G.bipush X 51 dX6_addSet_49 rfl (by decide) ?_
        refine G.iret X dX6_addSet_51 ⟨Nat.le_refl _, Nat.le_refl _⟩ ⟨rfl, rfl, rfl, _, rfl, ?_⟩
        unfold addSetF
        rw [if_pos (by omega)]
        exact ⟨rfl, hM, Off.rf⟩
      · refine G.iload_n X 33 dX6_addSet_32 rfl rfl ?_
        refine G.iload_n X 34 dX6_addSet_33 rfl rfl ?_
        refine G.icmp_gt X 49 37 dX6_addSet_34 (by decide) rfl (by omega) (by omega) (fun hc34 => ?_) (fun hc34 => ?_)
        · refine G.bipush X 51 dX6_addSet_49 rfl (by decide) ?_
          refine G.iret X dX6_addSet_51 ⟨Nat.le_refl _, Nat.le_refl _⟩ ⟨rfl, rfl, rfl, _, rfl, ?_⟩
          unfold addSetF
          rw [if_pos (by omega)]
          exact ⟨rfl, hM, Off.rf⟩
        · refine G.iload X 39 dX6_addSet_37 rfl rfl ?_
          refine G.bipush X 41 dX6_addSet_39 rfl (by decide) ?_
          refine G.bipush X 43 dX6_addSet_41 rfl (by decide) ?_
          refine G.sI3 (d := 0) X ml_X6_36 ys_X6_in 46 dX6_addSet_43 rfl (c_X6_in l D Bs _ kd rf _ _ _ _ (by omega) (by omega) (by omega)) (by decide) ⟨Nat.zero_le _, Nat.zero_le _⟩ (Nat.le_of_ble_eq_true rfl) (fun r43 M43 h43 => ?_)
          obtain ⟨hr43, hm43⟩ := h43
          subst hr43
          obtain rfl := hm43.symm
          refine G.ifb_ne X 52 49 dX6_addSet_46 (by decide) rfl (fun hc46 => ?_) (fun hc46 => ?_)
          · refine G.aload_n X 53 dX6_addSet_52 rfl rfl ?_
            refine G.getR X fl_X6_7 56 dX6_addSet_53 rfl (hY).1 (ShY.r0 hY) ?_
            refine G.bipush X 58 dX6_addSet_56 rfl (by decide) ?_
            refine G.iald X (i := 6) 59 dX6_addSet_58 rfl ((ShY.a0 hY)).1 (((ShY.a0 hY)).2 _) rfl (by omega) (by decide) ?_
            refine G.bipush X 61 dX6_addSet_59 rfl (by decide) ?_
            refine G.icmp_ne X 67 64 dX6_addSet_61 (by decide) rfl (by omega) (by omega) (fun hc61 => ?_) (fun hc61 => ?_)
            · refine G.aload_n X 68 dX6_addSet_67 rfl rfl ?_
              refine G.vV0 (d := 0) X ml_X6_41 yv_X6_record 71 dX6_addSet_68 rfl (c_X6_record l D Bs _ kd rf _ y h hY hM.2.1) ⟨_, _, (hY).1, rfl, rfl⟩ (by decide) ⟨Nat.zero_le _, Nat.zero_le _⟩ (Nat.le_of_ble_eq_true rfl) (fun M68 h68 => ?_)
              have e68 : M68 (y + 1) = M (y + 1) := h68.2.1 _ (by omega) (by omega)
              refine G.aload_n X 72 dX6_addSet_71 rfl rfl ?_
              refine G.getR X fl_X6_7 75 dX6_addSet_72 rfl (hY).1 (ShY.r0 hY) ?_
              refine G.bipush X 77 dX6_addSet_75 rfl (by decide) ?_
              refine G.iald X (i := 6) 78 dX6_addSet_77 rfl ((ShY.a0 hY)).1 (((ShY.a0 hY)).2 _) rfl (by omega) (by decide) ?_
              rw [e68, n6]
              refine G.istore (ls' := [_, _, _, _, _, _, _]) X 80 dX6_addSet_78 rfl (by decide) rfl ?_
              refine G.aload_n X 81 dX6_addSet_80 rfl rfl ?_
              refine G.getR X fl_X6_7 84 dX6_addSet_81 rfl (hY).1 (ShY.r0 hY) ?_
              refine G.bipush X 86 dX6_addSet_84 rfl (by decide) ?_
              refine G.dup2 X 87 dX6_addSet_86 rfl rfl rfl ?_
              refine G.iald X (i := 6) 88 dX6_addSet_87 rfl ((ShY.a0 hY)).1 (((ShY.a0 hY)).2 _) rfl (by omega) (by decide) ?_
              refine G.iconst X 89 dX6_addSet_88 rfl ?_
              refine G.iadd X 90 dX6_addSet_89 rfl ?_
              refine G.iast X (i := 6) 91 dX6_addSet_90 rfl ((ShY.a0 hY)).1 (((ShY.a0 hY)).2 _) rfl (by omega) (by decide) ?_
              refine G.aload_n X 92 dX6_addSet_91 rfl rfl ?_
              refine G.iload X 94 dX6_addSet_92 rfl rfl ?_
              refine G.iconst X 95 dX6_addSet_94 rfl ?_
              refine G.iload_n X 96 dX6_addSet_95 rfl rfl ?_
              refine G.vV3 (d := 0) X ml_X6_44 yv_X6_toSet 99 dX6_addSet_96 rfl (c_X6_toSet l D Bs _ kd rf _ y (nS (M (y + 1))) 0 _ hY (by omega) (by decide)) ⟨_, _, (hY).1, rfl, rfl⟩ (by decide) ⟨Nat.zero_le _, Nat.zero_le _⟩ (Nat.le_of_ble_eq_true rfl) (fun M96 h96 => ?_)
              subst h96
              try simp only [ms_same, ms_ms]
              refine G.aload_n X 100 dX6_addSet_99 rfl rfl ?_
              refine G.iload X 102 dX6_addSet_100 rfl rfl ?_
              refine G.iconst X 103 dX6_addSet_102 rfl ?_
              refine G.iload_n X 104 dX6_addSet_103 rfl rfl ?_
              refine G.vV3 (d := 0) X ml_X6_44 yv_X6_toSet 107 dX6_addSet_104 rfl (c_X6_toSet l D Bs _ kd rf _ y (nS (M (y + 1))) 1 _ hY (by omega) (by decide)) ⟨_, _, (hY).1, rfl, rfl⟩ (by decide) ⟨Nat.zero_le _, Nat.zero_le _⟩ (Nat.le_of_ble_eq_true rfl) (fun M104 h104 => ?_)
              subst h104
              try simp only [ms_same, ms_ms]
              refine G.aload_n X 108 dX6_addSet_107 rfl rfl ?_
              refine G.iload X 110 dX6_addSet_108 rfl rfl ?_
              refine G.iconst X 111 dX6_addSet_110 rfl ?_
              refine G.iload_n X 112 dX6_addSet_111 rfl rfl ?_
              refine G.vV3 (d := 0) X ml_X6_44 yv_X6_toSet 115 dX6_addSet_112 rfl (c_X6_toSet l D Bs _ kd rf _ y (nS (M (y + 1))) 2 _ hY (by omega) (by decide)) ⟨_, _, (hY).1, rfl, rfl⟩ (by decide) ⟨Nat.zero_le _, Nat.zero_le _⟩ (Nat.le_of_ble_eq_true rfl) (fun M112 h112 => ?_)
              subst h112
              try simp only [ms_same, ms_ms]
              refine G.aload_n X 116 dX6_addSet_115 rfl rfl ?_
              refine G.iload X 118 dX6_addSet_116 rfl rfl ?_
              refine G.iconst X 119 dX6_addSet_118 rfl ?_
              refine G.iload X 121 dX6_addSet_119 rfl rfl ?_
              refine G.vV3 (d := 0) X ml_X6_44 yv_X6_toSet 124 dX6_addSet_121 rfl (c_X6_toSet l D Bs _ kd rf _ y (nS (M (y + 1))) 3 _ hY (by omega) (by decide)) ⟨_, _, (hY).1, rfl, rfl⟩ (by decide) ⟨Nat.zero_le _, Nat.zero_le _⟩ (Nat.le_of_ble_eq_true rfl) (fun M121 h121 => ?_)
              subst h121
              try simp only [ms_same, ms_ms]
              refine G.iconst X 125 dX6_addSet_124 rfl ?_
              refine G.istore (ls' := [_, _, _, _, _, _, _]) X 127 dX6_addSet_125 rfl (by decide) rfl ?_
              refine G.iload X 129 dX6_addSet_127 rfl rfl ?_
              refine G.bipush X 131 dX6_addSet_129 rfl (by decide) ?_
              refine G.icmp_gt X 149 134 dX6_addSet_131 (by decide) rfl (by omega) (by omega) (fun hc131 => ?_) (fun hc131 => ?_)
              · exact absurd hc131 (by decide)
              · refine G.aload_n X 135 dX6_addSet_134 rfl rfl ?_
                refine G.iload X 137 dX6_addSet_135 rfl rfl ?_
                refine G.iload X 139 dX6_addSet_137 rfl rfl ?_
                refine G.iconst X 140 dX6_addSet_139 rfl ?_
                refine G.vV3 (d := 0) X ml_X6_44 yv_X6_toSet 143 dX6_addSet_140 rfl (c_X6_toSet l D Bs _ kd rf _ y (nS (M (y + 1))) 4 _ hY (by omega) (by decide)) ⟨_, _, (hY).1, rfl, rfl⟩ (by decide) ⟨Nat.zero_le _, Nat.zero_le _⟩ (Nat.le_of_ble_eq_true rfl) (fun M140 h140 => ?_)
                subst h140
                try simp only [ms_same, ms_ms]
                refine G.iinc (ls' := [_, _, _, _, _, _, _]) X 146 dX6_addSet_143 rfl rfl (by decide) rfl ?_
                refine G.goto X 127 dX6_addSet_146 (by decide) ?_
                refine G.iload X 129 dX6_addSet_127 rfl rfl ?_
                refine G.bipush X 131 dX6_addSet_129 rfl (by decide) ?_
                refine G.icmp_gt X 149 134 dX6_addSet_131 (by decide) rfl (by omega) (by omega) (fun hc131 => ?_) (fun hc131 => ?_)
                · exact absurd hc131 (by decide)
                · refine G.aload_n X 135 dX6_addSet_134 rfl rfl ?_
                  refine G.iload X 137 dX6_addSet_135 rfl rfl ?_
                  refine G.iload X 139 dX6_addSet_137 rfl rfl ?_
                  refine G.iconst X 140 dX6_addSet_139 rfl ?_
                  refine G.vV3 (d := 0) X ml_X6_44 yv_X6_toSet 143 dX6_addSet_140 rfl (c_X6_toSet l D Bs _ kd rf _ y (nS (M (y + 1))) 5 _ hY (by omega) (by decide)) ⟨_, _, (hY).1, rfl, rfl⟩ (by decide) ⟨Nat.zero_le _, Nat.zero_le _⟩ (Nat.le_of_ble_eq_true rfl) (fun M140 h140 => ?_)
                  subst h140
                  try simp only [ms_same, ms_ms]
                  refine G.iinc (ls' := [_, _, _, _, _, _, _]) X 146 dX6_addSet_143 rfl rfl (by decide) rfl ?_
                  refine G.goto X 127 dX6_addSet_146 (by decide) ?_
                  refine G.iload X 129 dX6_addSet_127 rfl rfl ?_
                  refine G.bipush X 131 dX6_addSet_129 rfl (by decide) ?_
                  refine G.icmp_gt X 149 134 dX6_addSet_131 (by decide) rfl (by omega) (by omega) (fun hc131 => ?_) (fun hc131 => ?_)
                  · exact absurd hc131 (by decide)
                  · refine G.aload_n X 135 dX6_addSet_134 rfl rfl ?_
                    refine G.iload X 137 dX6_addSet_135 rfl rfl ?_
                    refine G.iload X 139 dX6_addSet_137 rfl rfl ?_
                    refine G.iconst X 140 dX6_addSet_139 rfl ?_
                    refine G.vV3 (d := 0) X ml_X6_44 yv_X6_toSet 143 dX6_addSet_140 rfl (c_X6_toSet l D Bs _ kd rf _ y (nS (M (y + 1))) 6 _ hY (by omega) (by decide)) ⟨_, _, (hY).1, rfl, rfl⟩ (by decide) ⟨Nat.zero_le _, Nat.zero_le _⟩ (Nat.le_of_ble_eq_true rfl) (fun M140 h140 => ?_)
                    subst h140
                    try simp only [ms_same, ms_ms]
                    refine G.iinc (ls' := [_, _, _, _, _, _, _]) X 146 dX6_addSet_143 rfl rfl (by decide) rfl ?_
                    refine G.goto X 127 dX6_addSet_146 (by decide) ?_
                    refine G.iload X 129 dX6_addSet_127 rfl rfl ?_
                    refine G.bipush X 131 dX6_addSet_129 rfl (by decide) ?_
                    refine G.icmp_gt X 149 134 dX6_addSet_131 (by decide) rfl (by omega) (by omega) (fun hc131 => ?_) (fun hc131 => ?_)
                    · exact absurd hc131 (by decide)
                    · refine G.aload_n X 135 dX6_addSet_134 rfl rfl ?_
                      refine G.iload X 137 dX6_addSet_135 rfl rfl ?_
                      refine G.iload X 139 dX6_addSet_137 rfl rfl ?_
                      refine G.iconst X 140 dX6_addSet_139 rfl ?_
                      refine G.vV3 (d := 0) X ml_X6_44 yv_X6_toSet 143 dX6_addSet_140 rfl (c_X6_toSet l D Bs _ kd rf _ y (nS (M (y + 1))) 7 _ hY (by omega) (by decide)) ⟨_, _, (hY).1, rfl, rfl⟩ (by decide) ⟨Nat.zero_le _, Nat.zero_le _⟩ (Nat.le_of_ble_eq_true rfl) (fun M140 h140 => ?_)
                      subst h140
                      try simp only [ms_same, ms_ms]
                      refine G.iinc (ls' := [_, _, _, _, _, _, _]) X 146 dX6_addSet_143 rfl rfl (by decide) rfl ?_
                      refine G.goto X 127 dX6_addSet_146 (by decide) ?_
                      refine G.iload X 129 dX6_addSet_127 rfl rfl ?_
                      refine G.bipush X 131 dX6_addSet_129 rfl (by decide) ?_
                      refine G.icmp_gt X 149 134 dX6_addSet_131 (by decide) rfl (by omega) (by omega) (fun hc131 => ?_) (fun hc131 => ?_)
                      · exact absurd hc131 (by decide)
                      · refine G.aload_n X 135 dX6_addSet_134 rfl rfl ?_
                        refine G.iload X 137 dX6_addSet_135 rfl rfl ?_
                        refine G.iload X 139 dX6_addSet_137 rfl rfl ?_
                        refine G.iconst X 140 dX6_addSet_139 rfl ?_
                        refine G.vV3 (d := 0) X ml_X6_44 yv_X6_toSet 143 dX6_addSet_140 rfl (c_X6_toSet l D Bs _ kd rf _ y (nS (M (y + 1))) 8 _ hY (by omega) (by decide)) ⟨_, _, (hY).1, rfl, rfl⟩ (by decide) ⟨Nat.zero_le _, Nat.zero_le _⟩ (Nat.le_of_ble_eq_true rfl) (fun M140 h140 => ?_)
                        subst h140
                        try simp only [ms_same, ms_ms]
                        refine G.iinc (ls' := [_, _, _, _, _, _, _]) X 146 dX6_addSet_143 rfl rfl (by decide) rfl ?_
                        refine G.goto X 127 dX6_addSet_146 (by decide) ?_
                        refine G.iload X 129 dX6_addSet_127 rfl rfl ?_
                        refine G.bipush X 131 dX6_addSet_129 rfl (by decide) ?_
                        refine G.icmp_gt X 149 134 dX6_addSet_131 (by decide) rfl (by omega) (by omega) (fun hc131 => ?_) (fun hc131 => ?_)
                        · refine G.iload X 151 dX6_addSet_149 rfl rfl ?_
                          refine G.iret X dX6_addSet_151 ⟨Nat.le_refl _, Nat.le_refl _⟩ ⟨rfl, rfl, rfl, _, rfl, ?_⟩
                          unfold addSetF
                          rw [if_neg (by omega), if_neg (by omega)]
                          refine ⟨n6.symm, hM.act h68 (addSetR (M (y + 1)) x0 x1 x2 x3) ?_⟩
                          simp only [mu, ms_same, ms_ms, e68]
                          first
                            | (rw [← addSetR_alt (M (y + 1)) x0 x1 x2 x3 n6]; done)
                            | (rw [← addSetR_alt (M (y + 1)) x0 x1 x2 x3 n6, n6]; done)
                        · exact absurd hc131 (by decide)
            · refine G.bipush X 66 dX6_addSet_64 rfl (by decide) ?_
              refine G.iret X dX6_addSet_66 ⟨Nat.le_refl _, Nat.le_refl _⟩ ⟨rfl, rfl, rfl, _, rfl, ?_⟩
              unfold addSetF
              rw [if_neg (by omega), if_pos (by omega)]
              exact ⟨rfl, hM, Off.rf⟩
          · refine G.bipush X 51 dX6_addSet_49 rfl (by decide) ?_
            refine G.iret X dX6_addSet_51 ⟨Nat.le_refl _, Nat.le_refl _⟩ ⟨rfl, rfl, rfl, _, rfl, ?_⟩
            unfold addSetF
            rw [if_pos (by omega)]
            exact ⟨rfl, hM, Off.rf⟩
set_option maxHeartbeats 1000000 in
set_option maxRecDepth 100000 in
theorem c_X6_bring (l : Launch) (D : xD) (Bs sz : Nat) (kd : xKd) (rf : xRf) (M : xM) (y : Nat) (h : List xR) (sn : Option xR) (t : List Int) (x : Int) (z : Int) (hY : ShY kd rf y) (hW : Vr (M (y + 1))) (hM : MSt M y (M (y + 1)) h sn t) (r0 : IR x) (r1 : IR z) : CtI l D Bs yX6_bring cX6_bring 3 (some .int) 2 [.ref y, vi x, vi z] sz kd rf M (fun q M' => q = (bringF x z (M (y + 1))).1 ∧ MSt M' y (actR (bringF x z (M (y + 1))).2 (M (y + 1))) (actH (bringF x z (M (y + 1))).2 (M (y + 1)) h) sn t ∧ Off M M' y 8) := by
  refine Ctr.of (yv_X6_bring.1.2.2.2.2) (List.forall_mem_cons.mpr ⟨rfl, List.forall_mem_cons.mpr ⟨rfl, List.forall_mem_cons.mpr ⟨rfl, fun _ h => absurd h List.not_mem_nil⟩⟩⟩) (Nat.le_of_ble_eq_true rfl) [some (.ref y), some (vi x), some (vi z)] rfl ?_
  intro p e s m args below meth c X hin
  have hV := hW.k
  obtain ⟨n6, n6b⟩ := hV.n6
  obtain ⟨n7, n7b⟩ := hV.n7
  obtain ⟨hv0, hv1, hv2, hv3, -, -⟩ := hV.1
  refine G.aload_n X 1 dX6_bring_0 rfl rfl ?_
  refine G.iload_n X 2 dX6_bring_1 rfl rfl ?_
  refine G.vI1 (d := 1) X ml_X6_52 yv_X6_noSet 5 dX6_bring_2 rfl (c_X6_noSet l D Bs _ kd rf _ y _ hY hV (by omega)) ⟨_, _, (hY).1, rfl, rfl⟩ (by decide) ⟨Nat.zero_le _, Nat.zero_le _⟩ (Nat.le_of_ble_eq_true rfl) (fun r2 M2 h2 => ?_)
  obtain ⟨hr2, hm2⟩ := h2
  subst hr2
  obtain rfl := hm2.symm
  refine G.ifb_ne X 16 8 dX6_bring_5 (by decide) rfl (fun hc5 => ?_) (fun hc5 => ?_)
  · refine G.iconst X 17 dX6_bring_16 rfl ?_
    refine G.iret X dX6_bring_17 ⟨Nat.le_refl _, Nat.le_refl _⟩ ⟨rfl, rfl, rfl, _, rfl, ?_⟩
    unfold bringF
    rw [if_pos (by omega)]
    exact ⟨rfl, hM, Off.rf⟩
  · refine G.aload_n X 9 dX6_bring_8 rfl rfl ?_
    refine G.iload_n X 10 dX6_bring_9 rfl rfl ?_
    refine G.vI1 (d := 1) X ml_X6_84 yv_X6_noSite 13 dX6_bring_10 rfl (c_X6_noSite l D Bs _ kd rf _ y _ hY hV (by omega)) ⟨_, _, (hY).1, rfl, rfl⟩ (by decide) ⟨Nat.zero_le _, Nat.zero_le _⟩ (Nat.le_of_ble_eq_true rfl) (fun r10 M10 h10 => ?_)
    obtain ⟨hr10, hm10⟩ := h10
    subst hr10
    obtain rfl := hm10.symm
    refine G.ifb_eq X 18 16 dX6_bring_13 (by decide) rfl (fun hc13 => ?_) (fun hc13 => ?_)
    · obtain ⟨u, rfl⟩ : ∃ u : Nat, x = (u : Int) := ⟨x.toNat, by omega⟩
      obtain ⟨j, rfl⟩ : ∃ j : Nat, z = (j : Int) := ⟨z.toNat, by omega⟩
      obtain ⟨v0, -, -, -, -, v5, -, -⟩ := hV.2.1 (u) (by omega)
      obtain ⟨-, w1, -, w3, w4, -, -⟩ := hV.2.2 (j) (by omega)
      refine G.aload_n X 19 dX6_bring_18 rfl rfl ?_
      refine G.iload_n X 20 dX6_bring_19 rfl rfl ?_
      refine G.iconst X 21 dX6_bring_20 rfl ?_
      refine G.vI2 (d := 0) X ml_X6_48 yv_X6_ofSet 24 dX6_bring_21 rfl (c_X6_ofSet l D Bs _ kd rf _ y u 5 hY (by omega) (by decide)) ⟨_, _, (hY).1, rfl, rfl⟩ (by decide) ⟨Nat.zero_le _, Nat.zero_le _⟩ (Nat.le_of_ble_eq_true rfl) (fun r21 M21 h21 => ?_)
      obtain ⟨hr21, hm21⟩ := h21
      subst hr21
      obtain rfl := hm21.symm
      refine G.if_gt X 59 27 dX6_bring_24 (by decide) rfl (by omega) (fun hc24 => ?_) (fun hc24 => ?_)
      · refine G.bipush X 61 dX6_bring_59 rfl (by decide) ?_
        refine G.iret X dX6_bring_61 ⟨Nat.le_refl _, Nat.le_refl _⟩ ⟨rfl, rfl, rfl, _, rfl, ?_⟩
        unfold bringF
        simp only [Int.toNat_natCast]
        rw [if_neg (by omega), if_pos (by omega)]
        exact ⟨rfl, hM, Off.rf⟩
      · refine G.aload_n X 28 dX6_bring_27 rfl rfl ?_
        refine G.iload_n X 29 dX6_bring_28 rfl rfl ?_
        refine G.vI1 (d := 1) X ml_X6_81 yv_X6_setAt 32 dX6_bring_29 rfl (c_X6_setAt l D Bs _ kd rf _ y j hY (by omega)) ⟨_, _, (hY).1, rfl, rfl⟩ (by decide) ⟨Nat.zero_le _, Nat.zero_le _⟩ (Nat.le_of_ble_eq_true rfl) (fun r29 M29 h29 => ?_)
        obtain ⟨hr29, hm29⟩ := h29
        subst hr29
        obtain rfl := hm29.symm
        refine G.if_ge X 59 35 dX6_bring_32 (by decide) rfl (by omega) (fun hc32 => ?_) (fun hc32 => ?_)
        · refine G.bipush X 61 dX6_bring_59 rfl (by decide) ?_
          refine G.iret X dX6_bring_61 ⟨Nat.le_refl _, Nat.le_refl _⟩ ⟨rfl, rfl, rfl, _, rfl, ?_⟩
          unfold bringF
          simp only [Int.toNat_natCast]
          rw [if_neg (by omega), if_pos (by omega)]
          exact ⟨rfl, hM, Off.rf⟩
        · refine G.aload_n X 36 dX6_bring_35 rfl rfl ?_
          refine G.getR X fl_X6_7 39 dX6_bring_36 rfl (hY).1 (ShY.r0 hY) ?_
          refine G.iconst X 40 dX6_bring_39 rfl ?_
          refine G.iald X (i := 0) 41 dX6_bring_40 rfl ((ShY.a0 hY)).1 (((ShY.a0 hY)).2 _) rfl (by omega) (by decide) ?_
          refine G.aload_n X 42 dX6_bring_41 rfl rfl ?_
          refine G.iload_n X 43 dX6_bring_42 rfl rfl ?_
          refine G.iconst X 44 dX6_bring_43 rfl ?_
          refine G.vI2 (d := 0) X ml_X6_78 yv_X6_ofSite 47 dX6_bring_44 rfl (c_X6_ofSite l D Bs _ kd rf _ y j 3 hY (by omega) (by decide)) ⟨_, _, (hY).1, rfl, rfl⟩ (by decide) ⟨Nat.zero_le _, Nat.zero_le _⟩ (Nat.le_of_ble_eq_true rfl) (fun r44 M44 h44 => ?_)
          obtain ⟨hr44, hm44⟩ := h44
          subst hr44
          obtain rfl := hm44.symm
          refine G.icmp_ge X 59 50 dX6_bring_47 (by decide) rfl (by omega) (by omega) (fun hc47 => ?_) (fun hc47 => ?_)
          · refine G.bipush X 61 dX6_bring_59 rfl (by decide) ?_
            refine G.iret X dX6_bring_61 ⟨Nat.le_refl _, Nat.le_refl _⟩ ⟨rfl, rfl, rfl, _, rfl, ?_⟩
            unfold bringF
            simp only [Int.toNat_natCast]
            rw [if_neg (by omega), if_pos (by omega)]
            exact ⟨rfl, hM, Off.rf⟩
          · refine G.aload_n X 51 dX6_bring_50 rfl rfl ?_
            refine G.iload_n X 52 dX6_bring_51 rfl rfl ?_
            refine G.iload_n X 53 dX6_bring_52 rfl rfl ?_
            refine G.vI2 (d := 1) X ml_X6_87 yv_X6_fits 56 dX6_bring_53 rfl (c_X6_fits l D Bs _ kd rf _ y u j hY hV (by omega) (by omega)) ⟨_, _, (hY).1, rfl, rfl⟩ (by decide) ⟨Nat.zero_le _, Nat.zero_le _⟩ (Nat.le_of_ble_eq_true rfl) (fun r53 M53 h53 => ?_)
            obtain ⟨hr53, hm53⟩ := h53
            subst hr53
            obtain rfl := hm53.symm
            refine G.ifb_ne X 62 59 dX6_bring_56 (by decide) rfl (fun hc56 => ?_) (fun hc56 => ?_)
            · refine G.aload_n X 63 dX6_bring_62 rfl rfl ?_
              refine G.vV0 (d := 0) X ml_X6_41 yv_X6_record 66 dX6_bring_63 rfl (c_X6_record l D Bs _ kd rf _ y h hY hM.2.1) ⟨_, _, (hY).1, rfl, rfl⟩ (by decide) ⟨Nat.zero_le _, Nat.zero_le _⟩ (Nat.le_of_ble_eq_true rfl) (fun M63 h63 => ?_)
              have e63 : M63 (y + 1) = M (y + 1) := h63.2.1 _ (by omega) (by omega)
              refine G.aload_n X 67 dX6_bring_66 rfl rfl ?_
              refine G.iload_n X 68 dX6_bring_67 rfl rfl ?_
              refine G.iload_n X 69 dX6_bring_68 rfl rfl ?_
              refine G.vV2 (d := 1) X ml_X6_90 yv_X6_comes 72 dX6_bring_69 rfl (c_X6_comes l D Bs _ kd rf _ y u j hY (by omega) (by omega)) ⟨_, _, (hY).1, rfl, rfl⟩ (by decide) ⟨Nat.zero_le _, Nat.zero_le _⟩ (Nat.le_of_ble_eq_true rfl) (fun M69 h69 => ?_)
              rw [e63] at h69
              subst h69
              refine G.aload_n X 73 dX6_bring_72 rfl rfl ?_
              refine G.vI0 (d := 1) X ml_X6_93 yv_X6_inYard 76 dX6_bring_73 rfl (c_X6_inYard l D Bs _ kd rf _ y hY (by rw [ms_same]; exact hV.come (by decide) (by omega) (by omega))) ⟨_, _, (hY).1, rfl, rfl⟩ (by decide) ⟨Nat.zero_le _, Nat.zero_le _⟩ (Nat.le_of_ble_eq_true rfl) (fun r73 M73 h73 => ?_)
              obtain ⟨hr73, hm73⟩ := h73
              rw [ms_same, nS_of (r := (M (y + 1))) (comeR_0 (by decide))] at hr73
              subst hr73
              obtain rfl := hm73.symm
              refine G.iret X dX6_bring_76 ⟨Nat.le_refl _, Nat.le_refl _⟩ ⟨rfl, rfl, rfl, _, rfl, ?_⟩
              unfold bringF
              simp only [Int.toNat_natCast]
              rw [if_neg (by omega), if_neg (by omega)]
              exact ⟨rfl, hM.act h63 (comeR (M (y + 1)) u j) rfl⟩
            · refine G.bipush X 61 dX6_bring_59 rfl (by decide) ?_
              refine G.iret X dX6_bring_61 ⟨Nat.le_refl _, Nat.le_refl _⟩ ⟨rfl, rfl, rfl, _, rfl, ?_⟩
              unfold bringF
              simp only [Int.toNat_natCast]
              rw [if_neg (by omega), if_pos (by omega)]
              exact ⟨rfl, hM, Off.rf⟩
    · refine G.iconst X 17 dX6_bring_16 rfl ?_
      refine G.iret X dX6_bring_17 ⟨Nat.le_refl _, Nat.le_refl _⟩ ⟨rfl, rfl, rfl, _, rfl, ?_⟩
      unfold bringF
      rw [if_pos (by omega)]
      exact ⟨rfl, hM, Off.rf⟩
