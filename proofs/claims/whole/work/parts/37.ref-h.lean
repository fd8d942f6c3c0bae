def MSt (M : xM) (y : Nat) (r : xR) (h : List xR) (sn : Option xR) (t : List Int) : Prop := M (y + 1) = r ∧ HiR M y h ∧ (M y 4 = if sn.isSome then 1 else 0) ∧ (∀ q, sn = some q → ∀ k, k < 236 → M (y + 3) k = q k) ∧ TxM M y t
theorem MSt.act {M M1 Z : xM} {y : Nat} {r : xR} {h : List xR} {sn : Option xR} {t : List Int} (hM : MSt M y r h sn t) (h1 : HiR M1 y ((M (y + 1) :: h).take 5) ∧ OfH M M1 y) (r' : xR) (hZ : Z = ms M1 (y + 1) r') : MSt Z y r' ((r :: h).take 5) sn t ∧ Off M Z y 8 := by
  subst hZ
  obtain ⟨hr, hH, hs, hq, ht⟩ := hM
  obtain ⟨h1, h2, h3⟩ := h1
  rw [hr] at h1
  refine ⟨⟨ms_same, ?_, ?_, ?_, ?_⟩, ?_⟩
  · obtain ⟨g1, g2, g3⟩ := h1
    refine ⟨?_, g2, fun j q hj k hk => ?_⟩
    · rw [ms_ne (by omega)]
      exact g1
    · rw [ms_ne (by omega)]
      exact g3 j q hj k hk
  · rw [ms_ne (by omega), h3 4 (by decide)]
    exact hs
  · intro q hsn k hk
    rw [ms_ne (by omega), h2 _ (by omega) (by omega)]
    exact hq q hsn k hk
  · obtain ⟨⟨t1, t2⟩, t3⟩ := ht
    refine ⟨⟨?_, t2⟩, fun j hj => ?_⟩
    · rw [ms_ne (by omega), h3 7 (by decide)]
      exact t1
    · rw [ms_ne (by omega), h2 _ (by omega) (by omega)]
      exact t3 j hj
  · intro a ha
    rw [ms_ne (by omega)]
    exact h2 a (by omega) (by omega)
set_option maxHeartbeats 1000000 in
set_option maxRecDepth 100000 in
theorem c_X6_buy (l : Launch) (D : xD) (Bs sz : Nat) (kd : xKd) (rf : xRf) (M : xM) (y : Nat) (h : List xR) (sn : Option xR) (t : List Int) (x : Int) (hY : ShY kd rf y) (hW : Vr (M (y + 1))) (hM : MSt M y (M (y + 1)) h sn t) (r0 : IR x) : CtI l D Bs yX6_buy cX6_buy 2 (some .int) 1 [.ref y, vi x] sz kd rf M (fun q M' => q = (buyF x (M (y + 1))).1 ∧ MSt M' y (actR (buyF x (M (y + 1))).2 (M (y + 1))) (actH (buyF x (M (y + 1))).2 (M (y + 1)) h) sn t ∧ Off M M' y 8) := by
  refine Ctr.of (yv_X6_buy.1.2.2.2.2) (List.forall_mem_cons.mpr ⟨rfl, List.forall_mem_cons.mpr ⟨rfl, fun _ h => absurd h List.not_mem_nil⟩⟩) (Nat.le_of_ble_eq_true rfl) [some (.ref y), some (vi x)] rfl ?_
  intro p e s m args below meth c X hin
  have hV := hW.k
  obtain ⟨n6, n6b⟩ := hV.n6
  obtain ⟨n7, n7b⟩ := hV.n7
  obtain ⟨hv0, hv1, hv2, hv3, -, -⟩ := hV.1
  refine G.iload_n X 1 dX6_buy_0 rfl rfl ?_
  refine G.iconst X 2 dX6_buy_1 rfl ?_
  refine G.sipush X 5 dX6_buy_2 rfl (by decide) ?_
  refine G.sI3 (d := 0) X ml_X6_36 ys_X6_in 8 dX6_buy_5 rfl (c_X6_in l D Bs _ kd rf _ _ _ _ (by omega) (by omega) (by omega)) (by decide) ⟨Nat.zero_le _, Nat.zero_le _⟩ (Nat.le_of_ble_eq_true rfl) (fun r5 M5 h5 => ?_)
  obtain ⟨hr5, hm5⟩ := h5
  subst hr5
  obtain rfl := hm5.symm
  refine G.ifb_ne X 14 11 dX6_buy_8 (by decide) rfl (fun hc8 => ?_) (fun hc8 => ?_)
  · refine G.aload_n X 15 dX6_buy_14 rfl rfl ?_
    refine G.getR X fl_X6_7 18 dX6_buy_15 rfl (hY).1 (ShY.r0 hY) ?_
    refine G.iconst X 19 dX6_buy_18 rfl ?_
    refine G.iald X (i := 3) 20 dX6_buy_19 rfl ((ShY.a0 hY)).1 (((ShY.a0 hY)).2 _) rfl (by omega) (by decide) ?_
    refine G.iload_n X 21 dX6_buy_20 rfl rfl ?_
    refine G.iadd X 22 dX6_buy_21 rfl ?_
    refine G.ldc (n := 50000) X ko_X6_40 24 dX6_buy_22 rfl (by decide) ?_
    refine G.icmp_le X 30 27 dX6_buy_24 (by decide) rfl (by omega) (by omega) (fun hc24 => ?_) (fun hc24 => ?_)
    · refine G.aload_n X 31 dX6_buy_30 rfl rfl ?_
      refine G.vV0 (d := 0) X ml_X6_41 yv_X6_record 34 dX6_buy_31 rfl (c_X6_record l D Bs _ kd rf _ y h hY hM.2.1) ⟨_, _, (hY).1, rfl, rfl⟩ (by decide) ⟨Nat.zero_le _, Nat.zero_le _⟩ (Nat.le_of_ble_eq_true rfl) (fun M31 h31 => ?_)
      have e31 : M31 (y + 1) = M (y + 1) := h31.2.1 _ (by omega) (by omega)
      refine G.aload_n X 35 dX6_buy_34 rfl rfl ?_
      refine G.getR X fl_X6_7 38 dX6_buy_35 rfl (hY).1 (ShY.r0 hY) ?_
      refine G.iconst X 39 dX6_buy_38 rfl ?_
      refine G.dup2 X 40 dX6_buy_39 rfl rfl rfl ?_
      refine G.iald X (i := 3) 41 dX6_buy_40 rfl ((ShY.a0 hY)).1 (((ShY.a0 hY)).2 _) rfl (by omega) (by decide) ?_
      refine G.iload_n X 42 dX6_buy_41 rfl rfl ?_
      refine G.iadd X 43 dX6_buy_42 rfl ?_
      refine G.iast X (i := 3) 44 dX6_buy_43 rfl ((ShY.a0 hY)).1 (((ShY.a0 hY)).2 _) rfl (by omega) (by decide) ?_
      refine G.aload_n X 45 dX6_buy_44 rfl rfl ?_
      refine G.getR X fl_X6_7 48 dX6_buy_45 rfl (hY).1 (ShY.r0 hY) ?_
      refine G.iconst X 49 dX6_buy_48 rfl ?_
      refine G.dup2 X 50 dX6_buy_49 rfl rfl rfl ?_
      refine G.iald X (i := 5) 51 dX6_buy_50 rfl ((ShY.a0 hY)).1 (((ShY.a0 hY)).2 _) rfl (by omega) (by decide) ?_
      refine G.iload_n X 52 dX6_buy_51 rfl rfl ?_
      refine G.iadd X 53 dX6_buy_52 rfl ?_
      refine G.iast X (i := 5) 54 dX6_buy_53 rfl ((ShY.a0 hY)).1 (((ShY.a0 hY)).2 _) rfl (by omega) (by decide) ?_
      refine G.aload_n X 55 dX6_buy_54 rfl rfl ?_
      refine G.getR X fl_X6_7 58 dX6_buy_55 rfl (hY).1 (ShY.r0 hY) ?_
      refine G.iconst X 59 dX6_buy_58 rfl ?_
      refine G.iald X (i := 3) 60 dX6_buy_59 rfl ((ShY.a0 hY)).1 (((ShY.a0 hY)).2 _) rfl (by omega) (by decide) ?_
      refine G.iret X dX6_buy_60 ⟨Nat.le_refl _, Nat.le_refl _⟩ ⟨rfl, rfl, rfl, _, rfl, ?_⟩
      unfold buyF
      rw [if_neg (by omega), if_neg (by omega)]
      refine ⟨by simp only [mu, ms_same, ms_ms, e31]; rw [fu_ne (by decide), fu_same], hM.act h31 (fu (fu (M (y + 1)) 3 ((M (y + 1)) 3 + x)) 5 ((M (y + 1)) 5 + x)) ?_⟩
      simp only [mu, ms_same, ms_ms, e31]
      try (rw [fu_ne (by decide)])
    · refine G.bipush X 29 dX6_buy_27 rfl (by decide) ?_
      refine G.iret X dX6_buy_29 ⟨Nat.le_refl _, Nat.le_refl _⟩ ⟨rfl, rfl, rfl, _, rfl, ?_⟩
      unfold buyF
      rw [if_neg (by omega), if_pos (by omega)]
      exact ⟨rfl, hM, Off.rf⟩
  · refine G.bipush X 13 dX6_buy_11 rfl (by decide) ?_
    refine G.iret X dX6_buy_13 ⟨Nat.le_refl _, Nat.le_refl _⟩ ⟨rfl, rfl, rfl, _, rfl, ?_⟩
    unfold buyF
    rw [if_pos (by omega)]
    exact ⟨rfl, hM, Off.rf⟩
set_option maxHeartbeats 1000000 in
set_option maxRecDepth 100000 in
theorem c_X6_weather (l : Launch) (D : xD) (Bs sz : Nat) (kd : xKd) (rf : xRf) (M : xM) (y : Nat) (h : List xR) (sn : Option xR) (t : List Int) (x : Int) (hY : ShY kd rf y) (hW : Vr (M (y + 1))) (hM : MSt M y (M (y + 1)) h sn t) (r0 : IR x) : CtI l D Bs yX6_weather cX6_weather 3 (some .int) 1 [.ref y, vi x] sz kd rf M (fun q M' => q = (weatherF x (M (y + 1))).1 ∧ MSt M' y (actR (weatherF x (M (y + 1))).2 (M (y + 1))) (actH (weatherF x (M (y + 1))).2 (M (y + 1)) h) sn t ∧ Off M M' y 8) := by
  refine Ctr.of (yv_X6_weather.1.2.2.2.2) (List.forall_mem_cons.mpr ⟨rfl, List.forall_mem_cons.mpr ⟨rfl, fun _ h => absurd h List.not_mem_nil⟩⟩) (Nat.le_of_ble_eq_true rfl) [some (.ref y), some (vi x), none] rfl ?_
  intro p e s m args below meth c X hin
  have hV := hW.k
  obtain ⟨n6, n6b⟩ := hV.n6
  obtain ⟨n7, n7b⟩ := hV.n7
  obtain ⟨hv0, hv1, hv2, hv3, -, -⟩ := hV.1
  refine G.iload_n X 1 dX6_weather_0 rfl rfl ?_
  refine G.bipush X 3 dX6_weather_1 rfl (by decide) ?_
  refine G.bipush X 5 dX6_weather_3 rfl (by decide) ?_
  refine G.sI3 (d := 0) X ml_X6_36 ys_X6_in 8 dX6_weather_5 rfl (c_X6_in l D Bs _ kd rf _ _ _ _ (by omega) (by omega) (by omega)) (by decide) ⟨Nat.zero_le _, Nat.zero_le _⟩ (Nat.le_of_ble_eq_true rfl) (fun r5 M5 h5 => ?_)
  obtain ⟨hr5, hm5⟩ := h5
  subst hr5
  obtain rfl := hm5.symm
  refine G.ifb_ne X 14 11 dX6_weather_8 (by decide) rfl (fun hc8 => ?_) (fun hc8 => ?_)
  · refine G.iload_n X 15 dX6_weather_14 rfl rfl ?_
    refine G.aload_n X 16 dX6_weather_15 rfl rfl ?_
    refine G.getR X fl_X6_7 19 dX6_weather_16 rfl (hY).1 (ShY.r0 hY) ?_
    refine G.iconst X 20 dX6_weather_19 rfl ?_
    refine G.iald X (i := 1) 21 dX6_weather_20 rfl ((ShY.a0 hY)).1 (((ShY.a0 hY)).2 _) rfl (by omega) (by decide) ?_
    refine G.isub X 22 dX6_weather_21 rfl ?_
    refine G.istore_n (ls' := [_, _, _]) X 23 dX6_weather_22 rfl (by decide) rfl ?_
    refine G.iload_n X 24 dX6_weather_23 rfl rfl ?_
    refine G.if_ne X 30 27 dX6_weather_24 (by decide) rfl (by omega) (fun hc24 => ?_) (fun hc24 => ?_)
    · refine G.aload_n X 31 dX6_weather_30 rfl rfl ?_
      refine G.vV0 (d := 0) X ml_X6_41 yv_X6_record 34 dX6_weather_31 rfl (c_X6_record l D Bs _ kd rf _ y h hY hM.2.1) ⟨_, _, (hY).1, rfl, rfl⟩ (by decide) ⟨Nat.zero_le _, Nat.zero_le _⟩ (Nat.le_of_ble_eq_true rfl) (fun M31 h31 => ?_)
      have e31 : M31 (y + 1) = M (y + 1) := h31.2.1 _ (by omega) (by omega)
      refine G.aload_n X 35 dX6_weather_34 rfl rfl ?_
      refine G.getR X fl_X6_7 38 dX6_weather_35 rfl (hY).1 (ShY.r0 hY) ?_
      refine G.iconst X 39 dX6_weather_38 rfl ?_
      refine G.iload_n X 40 dX6_weather_39 rfl rfl ?_
      refine G.iast X (i := 1) 41 dX6_weather_40 rfl ((ShY.a0 hY)).1 (((ShY.a0 hY)).2 _) rfl (by omega) (by decide) ?_
      refine G.iload_n X 42 dX6_weather_41 rfl rfl ?_
      refine G.if_ge X 50 45 dX6_weather_42 (by decide) rfl (by omega) (fun hc42 => ?_) (fun hc42 => ?_)
      · refine G.iload_n X 51 dX6_weather_50 rfl rfl ?_
        refine G.iret X dX6_weather_51 ⟨Nat.le_refl _, Nat.le_refl _⟩ ⟨rfl, rfl, rfl, _, rfl, ?_⟩
        first
          | (unfold weatherF; rw [if_neg (by omega), if_neg (by omega)]; refine ⟨(if_pos (by omega)).symm, hM.act h31 (fu (M (y + 1)) 1 x) ?_⟩; simp only [mu, ms_same, ms_ms, e31]; try (rfl))
          | (unfold weatherF; rw [if_neg (by omega), if_neg (by omega)]; refine ⟨(if_neg (by omega)).symm, hM.act h31 (fu (M (y + 1)) 1 x) ?_⟩; simp only [mu, ms_same, ms_ms, e31]; try (rfl))
      · refine G.iload_n X 46 dX6_weather_45 rfl rfl ?_
        refine G.ineg X 47 dX6_weather_46 rfl ?_
        refine G.goto X 51 dX6_weather_47 (by decide) ?_
        refine G.iret X dX6_weather_51 ⟨Nat.le_refl _, Nat.le_refl _⟩ ⟨rfl, rfl, rfl, _, rfl, ?_⟩
        first
          | (unfold weatherF; rw [if_neg (by omega), if_neg (by omega)]; refine ⟨(if_pos (by omega)).symm, hM.act h31 (fu (M (y + 1)) 1 x) ?_⟩; simp only [mu, ms_same, ms_ms, e31]; try (rfl))
          | (unfold weatherF; rw [if_neg (by omega), if_neg (by omega)]; refine ⟨(if_neg (by omega)).symm, hM.act h31 (fu (M (y + 1)) 1 x) ?_⟩; simp only [mu, ms_same, ms_ms, e31]; try (rfl))
    · refine G.bipush X 29 dX6_weather_27 rfl (by decide) ?_
      refine G.iret X dX6_weather_29 ⟨Nat.le_refl _, Nat.le_refl _⟩ ⟨rfl, rfl, rfl, _, rfl, ?_⟩
      unfold weatherF
      rw [if_neg (by omega), if_pos (by omega)]
      exact ⟨rfl, hM, Off.rf⟩
  · refine G.bipush X 13 dX6_weather_11 rfl (by decide) ?_
    refine G.iret X dX6_weather_13 ⟨Nat.le_refl _, Nat.le_refl _⟩ ⟨rfl, rfl, rfl, _, rfl, ?_⟩
    unfold weatherF
    rw [if_pos (by omega)]
    exact ⟨rfl, hM, Off.rf⟩
set_option maxHeartbeats 1000000 in
set_option maxRecDepth 100000 in
theorem c_X6_setPrice (l : Launch) (D : xD) (Bs sz : Nat) (kd : xKd) (rf : xRf) (M : xM) (y : Nat) (h : List xR) (sn : Option xR) (t : List Int) (x : Int) (hY : ShY kd rf y) (hW : Vr (M (y + 1))) (hM : MSt M y (M (y + 1)) h sn t) (r0 : IR x) : CtI l D Bs yX6_setPrice cX6_setPrice 3 (some .int) 1 [.ref y, vi x] sz kd rf M (fun q M' => q = (priceF x (M (y + 1))).1 ∧ MSt M' y (actR (priceF x (M (y + 1))).2 (M (y + 1))) (actH (priceF x (M (y + 1))).2 (M (y + 1)) h) sn t ∧ Off M M' y 8) := by
  refine Ctr.of (yv_X6_setPrice.1.2.2.2.2) (List.forall_mem_cons.mpr ⟨rfl, List.forall_mem_cons.mpr ⟨rfl, fun _ h => absurd h List.not_mem_nil⟩⟩) (Nat.le_of_ble_eq_true rfl) [some (.ref y), some (vi x), none] rfl ?_
  intro p e s m args below meth c X hin
  have hV := hW.k
  obtain ⟨n6, n6b⟩ := hV.n6
  obtain ⟨n7, n7b⟩ := hV.n7
  obtain ⟨hv0, hv1, hv2, hv3, -, -⟩ := hV.1
  refine G.iload_n X 1 dX6_setPrice_0 rfl rfl ?_
  refine G.iconst X 2 dX6_setPrice_1 rfl ?_
  refine G.bipush X 4 dX6_setPrice_2 rfl (by decide) ?_
  refine G.sI3 (d := 0) X ml_X6_36 ys_X6_in 7 dX6_setPrice_4 rfl (c_X6_in l D Bs _ kd rf _ _ _ _ (by omega) (by omega) (by omega)) (by decide) ⟨Nat.zero_le _, Nat.zero_le _⟩ (Nat.le_of_ble_eq_true rfl) (fun r4 M4 h4 => ?_)
  obtain ⟨hr4, hm4⟩ := h4
  subst hr4
  obtain rfl := hm4.symm
  refine G.ifb_ne X 13 10 dX6_setPrice_7 (by decide) rfl (fun hc7 => ?_) (fun hc7 => ?_)
  · refine G.aload_n X 14 dX6_setPrice_13 rfl rfl ?_
    refine G.getR X fl_X6_7 17 dX6_setPrice_14 rfl (hY).1 (ShY.r0 hY) ?_
    refine G.iconst X 18 dX6_setPrice_17 rfl ?_
    refine G.iald X (i := 2) 19 dX6_setPrice_18 rfl ((ShY.a0 hY)).1 (((ShY.a0 hY)).2 _) rfl (by omega) (by decide) ?_
    refine G.istore_n (ls' := [_, _, _]) X 20 dX6_setPrice_19 rfl (by decide) rfl ?_
    refine G.iload_n X 21 dX6_setPrice_20 rfl rfl ?_
    refine G.iload_n X 22 dX6_setPrice_21 rfl rfl ?_
    refine G.icmp_ne X 28 25 dX6_setPrice_22 (by decide) rfl (by omega) (by omega) (fun hc22 => ?_) (fun hc22 => ?_)
    · refine G.aload_n X 29 dX6_setPrice_28 rfl rfl ?_
      refine G.vV0 (d := 0) X ml_X6_41 yv_X6_record 32 dX6_setPrice_29 rfl (c_X6_record l D Bs _ kd rf _ y h hY hM.2.1) ⟨_, _, (hY).1, rfl, rfl⟩ (by decide) ⟨Nat.zero_le _, Nat.zero_le _⟩ (Nat.le_of_ble_eq_true rfl) (fun M29 h29 => ?_)
      have e29 : M29 (y + 1) = M (y + 1) := h29.2.1 _ (by omega) (by omega)
      refine G.aload_n X 33 dX6_setPrice_32 rfl rfl ?_
      refine G.getR X fl_X6_7 36 dX6_setPrice_33 rfl (hY).1 (ShY.r0 hY) ?_
      refine G.iconst X 37 dX6_setPrice_36 rfl ?_
      refine G.iload_n X 38 dX6_setPrice_37 rfl rfl ?_
      refine G.iast X (i := 2) 39 dX6_setPrice_38 rfl ((ShY.a0 hY)).1 (((ShY.a0 hY)).2 _) rfl (by omega) (by decide) ?_
      refine G.iload_n X 40 dX6_setPrice_39 rfl rfl ?_
      refine G.iret X dX6_setPrice_40 ⟨Nat.le_refl _, Nat.le_refl _⟩ ⟨rfl, rfl, rfl, _, rfl, ?_⟩
      unfold priceF
      rw [if_neg (by omega), if_neg (by omega)]
      refine ⟨rfl, hM.act h29 (fu (M (y + 1)) 2 x) ?_⟩
      simp only [mu, ms_same, ms_ms, e29]
      try (rfl)
    · refine G.bipush X 27 dX6_setPrice_25 rfl (by decide) ?_
      refine G.iret X dX6_setPrice_27 ⟨Nat.le_refl _, Nat.le_refl _⟩ ⟨rfl, rfl, rfl, _, rfl, ?_⟩
      unfold priceF
      rw [if_neg (by omega), if_pos (by omega)]
      exact ⟨rfl, hM, Off.rf⟩
  · refine G.bipush X 12 dX6_setPrice_10 rfl (by decide) ?_
    refine G.iret X dX6_setPrice_12 ⟨Nat.le_refl _, Nat.le_refl _⟩ ⟨rfl, rfl, rfl, _, rfl, ?_⟩
    unfold priceF
    rw [if_pos (by omega)]
    exact ⟨rfl, hM, Off.rf⟩
