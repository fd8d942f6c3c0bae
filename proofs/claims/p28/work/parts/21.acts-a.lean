/-- the class's object at a holds: the row r, the history h (the newest first), the snapshot sn, the text t -/
def CSt (M : xM) (a : Nat) (r : xR) (h : List xR) (sn : Option xR) (t : List Int) : Prop := St M (a + 1) r ∧ HisOk M (a + 76) h ∧ (M a 3 = if sn.isSome then 1 else 0) ∧ (∀ q, sn = some q → St M (a + 51) q) ∧ TxO M (a + 203) t
def CB (h : List xR) (sn : Option xR) : Prop := (∀ q ∈ h, Bn q) ∧ ∀ q, sn = some q → Bn q
theorem CB.push {h : List xR} {sn : Option xR} {r : xR} (hB : CB h sn) (hr : Bn r) : CB ((r :: h).take 5) sn := ⟨fun q hq => by
  rcases List.mem_cons.mp (List.mem_of_mem_take hq) with e | e
  · rw [e]; exact hr
  · exact hB.1 q e, hB.2⟩
theorem CSt.push {M M' : xM} {a : Nat} {r : xR} {h h' : List xR} {sn : Option xR} {t : List Int} (hC : CSt M a r h sn t) (hr : Bn r) (hB : CB h sn) (h1 : HisOk M' (a + 76) h') (h2 : Off M M' (a + 76) 127) : CSt M' a r h' sn t :=
  ⟨hC.1.off hr (fun x _ _ => h2 x (by omega)), h1, by rw [h2 a (by omega)]; exact hC.2.2.1, fun q hq => (hC.2.2.2.1 q hq).off (hB.2 q hq) (fun x _ _ => h2 x (by omega)), hC.2.2.2.2.off (by rw [h2 _ (by omega)]) (h2 _ (by omega))⟩
theorem CSt.now {M M' : xM} {a : Nat} {r r' : xR} {h : List xR} {sn : Option xR} {t : List Int} (hC : CSt M a r h sn t) (hB : CB h sn) (h1 : St M' (a + 1) r') (h2 : Off M M' (a + 1) 25) : CSt M' a r' h sn t := by
  obtain ⟨o, ho⟩ := hC.2.1
  exact ⟨h1, ⟨o, ho.off hB.1 (fun x _ _ => h2 x (by omega))⟩, by rw [h2 a (by omega)]; exact hC.2.2.1, fun q hq => (hC.2.2.2.1 q hq).off (hB.2 q hq) (fun x _ _ => h2 x (by omega)), hC.2.2.2.2.off (by rw [h2 _ (by omega)]) (h2 _ (by omega))⟩
/-- scratch: the state ahead, the order, what a reading leaves -/
theorem CSt.scr {M M' : xM} {a : Nat} {r : xR} {h : List xR} {sn : Option xR} {t : List Int} (hC : CSt M a r h sn t) (hr : Bn r) (hB : CB h sn) (h1 : ∀ x, a ≤ x → x < a + 203 → (x < a + 26 ∨ a + 51 ≤ x) → M' x = M x) (h2 : M' (a + 203) 1 = M (a + 203) 1) (h3 : M' (a + 204) = M (a + 204)) : CSt M' a r h sn t := by
  obtain ⟨o, ho⟩ := hC.2.1
  exact ⟨hC.1.off hr (fun x _ _ => h1 x (by omega) (by omega) (by omega)), ⟨o, ho.off hB.1 (fun x _ _ => h1 x (by omega) (by omega) (by omega))⟩, by rw [h1 a (by omega) (by omega) (by omega)]; exact hC.2.2.1, fun q hq => (hC.2.2.2.1 q hq).off (hB.2 q hq) (fun x _ _ => h1 x (by omega) (by omega) (by omega)), hC.2.2.2.2.off h2 h3⟩
def actR (o : Option xR) (r : xR) : xR := o.getD r
def actH (o : Option xR) (r : xR) (h : List xR) : List xR := match o with
  | none => h
  | some _ => (r :: h).take 5
/-! what each act answers, and its new row -/
def buyF (l : Int) (r : xR) : Int × Option xR := if ¬ (1 ≤ l ∧ l ≤ 5000) then (-2, none) else if 50000 < r 3 + l then (-3, none) else (r 3 + l, some (fu (fu r 3 (r 3 + l)) 5 (r 5 + l)))
def weatherF (d : Int) (r : xR) : Int × Option xR := if ¬ (-30 ≤ d ∧ d ≤ 20) then (-2, none) else if d = r 1 then (-5, none) else (if 0 ≤ d - r 1 then d - r 1 else -(d - r 1), some (fu r 1 d))
def priceF (c : Int) (r : xR) : Int × Option xR := if ¬ (1 ≤ c ∧ c ≤ 99) then (-2, none) else if c = r 2 then (-5, none) else (r 2, some (fu r 2 c))
def addSetF (x0 x1 x2 x3 : Int) (r : xR) : Int × Option xR := if ¬ ((1 ≤ x0 ∧ x0 ≤ 99) ∧ (10 ≤ x1 ∧ x1 ≤ 500) ∧ (1 ≤ x2 ∧ x2 ≤ 50) ∧ x2 ≤ x1 ∧ (-30 ≤ x3 ∧ x3 ≤ 10)) then (-2, none) else if 10 ≤ r 6 then (-3, none) else (r 6, some (addSetR r x0 x1 x2 x3))
def litF (r : xR) (m : Nat) : Int := if r 3 < fS r m 1 - fS r m 4 then r 3 else fS r m 1 - fS r m 4
def fillR (r : xR) (m : Nat) (x : Int) : xR := fu (fu r (16 + 10 * m + 4) (fS r m 4 + x)) 3 (r 3 - x)
def fillF (m : Int) (r : xR) : Int × Option xR := if ¬ (0 ≤ m ∧ m < r 6) then (-1, none) else if 0 < fS r m.toNat 5 then (-4, none) else if litF r m.toNat ≤ 0 then (-5, none) else (litF r m.toNat, some (fillR r m.toNat (litF r m.toNat)))
def hoursOk (r : xR) (x2 x3 : Int) : Prop := 0 ≤ x2 ∧ x2 ≤ 998 ∧ x2 < x3 ∧ r 0 < x3 ∧ x3 ≤ 999
def addSiteF (x0 x1 x2 x3 : Int) (r : xR) : Int × Option xR := if ¬ ((1 ≤ x0 ∧ x0 ≤ 9) ∧ (1 ≤ x1 ∧ x1 ≤ 99) ∧ (0 ≤ x2 ∧ x2 ≤ 998 ∧ x2 < x3 ∧ r 0 < x3 ∧ x3 ≤ 999)) then (-2, none) else if 12 ≤ r 7 then (-3, none) else (r 7, some (addSiteR r x0 x1 x2 x3))
def bringF (m s : Int) (r : xR) : Int × Option xR := if ¬ ((0 ≤ m ∧ m < r 6) ∧ (0 ≤ s ∧ s < r 7)) then (-1, none) else if ¬ (fS r m.toNat 5 = 0 ∧ fC r s.toNat 4 = 0 ∧ r 0 < fC r s.toNat 3 ∧ fC r s.toNat 1 ≤ fS r m.toNat 0) then (-4, none) else (yardZ (comeR r m.toNat s.toNat) (nS r), some (comeR r m.toNat s.toNat))
def takeF (s : Int) (r : xR) : Int × Option xR := if ¬ (0 ≤ s ∧ s < r 7) then (-1, none) else if fC r s.toNat 4 = 0 then (-5, none) else (fC r s.toNat 4 - 1, some (backR r s.toNat))
def passF (n : Int) (r : xR) : Int × Option xR := if ¬ (1 ≤ n ∧ n ≤ 24) then (-2, none) else if 999 < r 0 + n then (-4, none) else (hoursR r n.toNat 8 - r 8, some (hoursR r n.toNat))
set_option maxHeartbeats 4000000 in
set_option maxRecDepth 100000 in
theorem c_X5_buy (l : Launch) (D : xD) (Bs sz : Nat) (kd : xKd) (rf : xRf) (M : xM) (a : Nat) (r : xR) (h : List xR) (sn : Option xR) (t : List Int) (x : Int) (hX : ShX kd rf a) (hV : Vr r) (hB : CB h sn) (hC : CSt M a r h sn t) (rx : IR x) : CtI l D Bs yX5_buy cX5_buy 2 (some .int) 3 [.ref a, vi x] sz kd rf M (fun q M' => q = (buyF x r).1 ∧ CSt M' a (actR (buyF x r).2 r) (actH (buyF x r).2 r h) sn t ∧ Off M M' a 215) := by
  refine Ctr.of (yv_X5_buy.1.2.2.2.2) (List.forall_mem_cons.mpr ⟨rfl, List.forall_mem_cons.mpr ⟨rfl, fun _ h => absurd h List.not_mem_nil⟩⟩) (Nat.le_of_ble_eq_true rfl) [some (.ref a), some (vi x)] rfl ?_
  intro p e s m args below meth c X hin
  obtain ⟨hM, ⟨o, hho⟩, hsnf, hsn, htx⟩ := id hC
  have hVk := hV.k
  obtain ⟨n6, n6b⟩ := hV.1.n6
  obtain ⟨n7, n7b⟩ := hV.1.n7
  obtain ⟨hv0, hv1, hv2, hv3, hv6, hv7⟩ := hV.1.1
  obtain ⟨hb0, hb1, hb2, hb3, -, -, -, hb7, hb8⟩ := hM.1
  refine G.iload_n X 1 dX5_buy_0 rfl rfl ?_
  refine G.iconst X 2 dX5_buy_1 rfl ?_
  refine G.sipush X 5 dX5_buy_2 rfl (by decide) ?_
  refine G.sI3 (d := 0) X ml_X5_44 ys_X5_isWithin 8 dX5_buy_5 rfl (c_X5_isWithin l D Bs _ kd rf _ _ _ _ (by omega) (by omega) (by omega)) (by decide) ⟨Nat.zero_le _, Nat.zero_le _⟩ (Nat.le_of_ble_eq_true rfl) (fun r5 M5 h5 => ?_)
  obtain ⟨hr5, hm5⟩ := h5
  subst hr5
  obtain rfl := hm5.symm
  refine G.ifb_ne X 14 11 dX5_buy_8 (by decide) rfl (fun hc8 => ?_) (fun hc8 => ?_)
  · refine G.aload_n X 15 dX5_buy_14 rfl rfl ?_
    refine G.getR X fl_X5_10 18 dX5_buy_15 rfl (hX).1 (ShX.r0 hX) ?_
    refine G.getI X fl_X5_48 21 dX5_buy_18 rfl ((ShX.now hX)).1 (((ShX.now hX)).2.1 3 (by decide)) ?_
    refine G.iload_n X 22 dX5_buy_21 rfl rfl ?_
    refine G.iadd X 23 dX5_buy_22 rfl ?_
    refine G.ldc (n := 50000) X ko_X5_52 25 dX5_buy_23 rfl (by decide) ?_
    refine G.icmp_le X 31 28 dX5_buy_25 (by decide) rfl (by omega) (by omega) (fun hc25 => ?_) (fun hc25 => ?_)
    · refine G.aload_n X 32 dX5_buy_31 rfl rfl ?_
      refine G.getR X fl_X5_29 35 dX5_buy_32 rfl (hX).1 (ShX.r4 hX) ?_
      refine G.aload_n X 36 dX5_buy_35 rfl rfl ?_
      refine G.getR X fl_X5_10 39 dX5_buy_36 rfl (hX).1 (ShX.r0 hX) ?_
      refine G.vV1 (d := 2) X ml_X5_53 yv_X2_push 42 dX5_buy_39 rfl (c_X2_push l D Bs _ kd rf _ (a + 76) (a + 1) o h r (ShX.hist hX) (ShX.now hX) hVk hM hho hB.1 (by omega)) ⟨_, _, ((ShX.hist hX)).1, rfl, rfl⟩ (by decide) ⟨Nat.zero_le _, Nat.zero_le _⟩ (Nat.le_of_ble_eq_true rfl) (fun M39 h39 => ?_)
      have hC2 := hC.push hV.1.bn hB h39.1 h39.2
      have hO2 : Off M M39 a 215 := h39.2.mono (by omega)
      have hB2 := hB.push hV.1.bn
      have hM2 := hC2.1
      obtain ⟨hp0, hp1, hp2, hp3, -, hp5, -, hp7, hp8⟩ := hM2.1
      refine G.aload_n X 43 dX5_buy_42 rfl rfl ?_
      refine G.getR X fl_X5_10 46 dX5_buy_43 rfl (hX).1 (ShX.r0 hX) ?_
      refine G.dup X 47 dX5_buy_46 rfl rfl ?_
      refine G.getf (v := vi (r 3)) X fl_X5_48 50 dX5_buy_47 rfl ((ShX.now hX)).1 ((xV_int (((ShX.now hX)).2.1 3 (by decide))).trans (congrArg vi ?_)) ?_
      · exact hp3
      refine G.iload_n X 51 dX5_buy_50 rfl rfl ?_
      refine G.iadd X 52 dX5_buy_51 rfl ?_
      refine G.putI X fl_X5_48 fi_4_3 rfl 55 dX5_buy_52 rfl ((ShX.now hX)).1 (((ShX.now hX)).2.1 3 (by decide)) ?_
      refine G.aload_n X 56 dX5_buy_55 rfl rfl ?_
      refine G.getR X fl_X5_10 59 dX5_buy_56 rfl (hX).1 (ShX.r0 hX) ?_
      refine G.dup X 60 dX5_buy_59 rfl rfl ?_
      refine G.getf (v := vi (r 5)) X fl_X5_57 63 dX5_buy_60 rfl ((ShX.now hX)).1 ((xV_int (((ShX.now hX)).2.1 5 (by decide))).trans (congrArg vi ?_)) ?_
      · rw [mu_ne (Or.inr (by decide))]; exact hp5
      refine G.iload_n X 64 dX5_buy_63 rfl rfl ?_
      refine G.iadd X 65 dX5_buy_64 rfl ?_
      refine G.putI X fl_X5_57 fi_4_5 rfl 68 dX5_buy_65 rfl ((ShX.now hX)).1 (((ShX.now hX)).2.1 5 (by decide)) ?_
      refine G.aload_n X 69 dX5_buy_68 rfl rfl ?_
      refine G.getR X fl_X5_10 72 dX5_buy_69 rfl (hX).1 (ShX.r0 hX) ?_
      refine G.getf (v := vi (r 3 + x)) X fl_X5_48 75 dX5_buy_72 rfl ((ShX.now hX)).1 ((xV_int (((ShX.now hX)).2.1 3 (by decide))).trans (congrArg vi ?_)) ?_
      · rw [mu_ne (Or.inr (by decide))]; exact mu_same
      refine G.iret X dX5_buy_75 ⟨Nat.le_refl _, Nat.le_refl _⟩ ⟨rfl, rfl, rfl, _, rfl, ?_⟩
      unfold buyF
      rw [if_neg (by omega), if_neg (by omega)]
      exact ⟨rfl, hC2.now hB2 ((hM2.set0 (k := 3) (j := 3) hV.1.bn (by decide)).set0 (k := 5) (j := 5) (by rw [nS_fu0 (by decide), nC_fu0 (by decide)]; exact ⟨n6b, n7b⟩) (by decide)) (Off.mu (Off.mu (Off.rf) (by omega)) (by omega)), hO2.trans (Off.mono (b := a + 1) (n := 25) (Off.mu (Off.mu (Off.rf) (by omega)) (by omega)) (by omega))⟩
    · refine G.bipush X 30 dX5_buy_28 rfl (by decide) ?_
      refine G.iret X dX5_buy_30 ⟨Nat.le_refl _, Nat.le_refl _⟩ ⟨rfl, rfl, rfl, _, rfl, ?_⟩
      unfold buyF
      rw [if_neg (by omega), if_pos (by omega)]
      exact ⟨rfl, hC, Off.rf⟩
  · refine G.bipush X 13 dX5_buy_11 rfl (by decide) ?_
    refine G.iret X dX5_buy_13 ⟨Nat.le_refl _, Nat.le_refl _⟩ ⟨rfl, rfl, rfl, _, rfl, ?_⟩
    unfold buyF
    rw [if_pos (by omega)]
    exact ⟨rfl, hC, Off.rf⟩
set_option maxHeartbeats 4000000 in
set_option maxRecDepth 100000 in
theorem c_X5_weather (l : Launch) (D : xD) (Bs sz : Nat) (kd : xKd) (rf : xRf) (M : xM) (a : Nat) (r : xR) (h : List xR) (sn : Option xR) (t : List Int) (x : Int) (hX : ShX kd rf a) (hV : Vr r) (hB : CB h sn) (hC : CSt M a r h sn t) (rx : IR x) : CtI l D Bs yX5_weather cX5_weather 3 (some .int) 3 [.ref a, vi x] sz kd rf M (fun q M' => q = (weatherF x r).1 ∧ CSt M' a (actR (weatherF x r).2 r) (actH (weatherF x r).2 r h) sn t ∧ Off M M' a 215) := by
  refine Ctr.of (yv_X5_weather.1.2.2.2.2) (List.forall_mem_cons.mpr ⟨rfl, List.forall_mem_cons.mpr ⟨rfl, fun _ h => absurd h List.not_mem_nil⟩⟩) (Nat.le_of_ble_eq_true rfl) [some (.ref a), some (vi x), none] rfl ?_
  intro p e s m args below meth c X hin
  obtain ⟨hM, ⟨o, hho⟩, hsnf, hsn, htx⟩ := id hC
  have hVk := hV.k
  obtain ⟨n6, n6b⟩ := hV.1.n6
  obtain ⟨n7, n7b⟩ := hV.1.n7
  obtain ⟨hv0, hv1, hv2, hv3, hv6, hv7⟩ := hV.1.1
  obtain ⟨hb0, hb1, hb2, hb3, -, -, -, hb7, hb8⟩ := hM.1
  refine G.iload_n X 1 dX5_weather_0 rfl rfl ?_
  refine G.bipush X 3 dX5_weather_1 rfl (by decide) ?_
  refine G.bipush X 5 dX5_weather_3 rfl (by decide) ?_
  refine G.sI3 (d := 0) X ml_X5_44 ys_X5_isWithin 8 dX5_weather_5 rfl (c_X5_isWithin l D Bs _ kd rf _ _ _ _ (by omega) (by omega) (by omega)) (by decide) ⟨Nat.zero_le _, Nat.zero_le _⟩ (Nat.le_of_ble_eq_true rfl) (fun r5 M5 h5 => ?_)
  obtain ⟨hr5, hm5⟩ := h5
  subst hr5
  obtain rfl := hm5.symm
  refine G.ifb_ne X 14 11 dX5_weather_8 (by decide) rfl (fun hc8 => ?_) (fun hc8 => ?_)
  · refine G.iload_n X 15 dX5_weather_14 rfl rfl ?_
    refine G.aload_n X 16 dX5_weather_15 rfl rfl ?_
    refine G.getR X fl_X5_10 19 dX5_weather_16 rfl (hX).1 (ShX.r0 hX) ?_
    refine G.getI X fl_X5_60 22 dX5_weather_19 rfl ((ShX.now hX)).1 (((ShX.now hX)).2.1 1 (by decide)) ?_
    refine G.icmp_ne X 28 25 dX5_weather_22 (by decide) rfl (by omega) (by omega) (fun hc22 => ?_) (fun hc22 => ?_)
    · refine G.aload_n X 29 dX5_weather_28 rfl rfl ?_
      refine G.getR X fl_X5_29 32 dX5_weather_29 rfl (hX).1 (ShX.r4 hX) ?_
      refine G.aload_n X 33 dX5_weather_32 rfl rfl ?_
      refine G.getR X fl_X5_10 36 dX5_weather_33 rfl (hX).1 (ShX.r0 hX) ?_
      refine G.vV1 (d := 2) X ml_X5_53 yv_X2_push 39 dX5_weather_36 rfl (c_X2_push l D Bs _ kd rf _ (a + 76) (a + 1) o h r (ShX.hist hX) (ShX.now hX) hVk hM hho hB.1 (by omega)) ⟨_, _, ((ShX.hist hX)).1, rfl, rfl⟩ (by decide) ⟨Nat.zero_le _, Nat.zero_le _⟩ (Nat.le_of_ble_eq_true rfl) (fun M36 h36 => ?_)
      have hC2 := hC.push hV.1.bn hB h36.1 h36.2
      have hO2 : Off M M36 a 215 := h36.2.mono (by omega)
      have hB2 := hB.push hV.1.bn
      have hM2 := hC2.1
      obtain ⟨hp0, hp1, hp2, hp3, -, hp5, -, hp7, hp8⟩ := hM2.1
      refine G.iload_n X 40 dX5_weather_39 rfl rfl ?_
      refine G.aload_n X 41 dX5_weather_40 rfl rfl ?_
      refine G.getR X fl_X5_10 44 dX5_weather_41 rfl (hX).1 (ShX.r0 hX) ?_
      refine G.getf (v := vi (r 1)) X fl_X5_60 47 dX5_weather_44 rfl ((ShX.now hX)).1 ((xV_int (((ShX.now hX)).2.1 1 (by decide))).trans (congrArg vi ?_)) ?_
      · exact hp1
      refine G.isub X 48 dX5_weather_47 rfl ?_
      refine G.abs X ml_X5_63 51 dX5_weather_48 rfl (by omega) ⟨Nat.le_of_ble_eq_true rfl, Nat.le_of_ble_eq_true rfl⟩ ⟨Nat.zero_le _, Nat.zero_le _⟩ ?_
      refine G.istore_n (ls' := [_, _, _]) X 52 dX5_weather_51 rfl (by decide) rfl ?_
      refine G.aload_n X 53 dX5_weather_52 rfl rfl ?_
      refine G.getR X fl_X5_10 56 dX5_weather_53 rfl (hX).1 (ShX.r0 hX) ?_
      refine G.iload_n X 57 dX5_weather_56 rfl rfl ?_
      refine G.putI X fl_X5_60 fi_4_1 rfl 60 dX5_weather_57 rfl ((ShX.now hX)).1 (((ShX.now hX)).2.1 1 (by decide)) ?_
      refine G.iload_n X 61 dX5_weather_60 rfl rfl ?_
      refine G.iret X dX5_weather_61 ⟨Nat.le_refl _, Nat.le_refl _⟩ ⟨rfl, rfl, rfl, _, rfl, ?_⟩
      unfold weatherF
      rw [if_neg (by omega), if_neg (by omega)]
      exact ⟨rfl, hC2.now hB2 (hM2.set0 (k := 1) (j := 1) hV.1.bn (by decide)) (Off.mu (Off.rf) (by omega)), hO2.trans (Off.mono (b := a + 1) (n := 25) (Off.mu (Off.rf) (by omega)) (by omega))⟩
    · refine G.bipush X 27 dX5_weather_25 rfl (by decide) ?_
      refine G.iret X dX5_weather_27 ⟨Nat.le_refl _, Nat.le_refl _⟩ ⟨rfl, rfl, rfl, _, rfl, ?_⟩
      unfold weatherF
      rw [if_neg (by omega), if_pos (by omega)]
      exact ⟨rfl, hC, Off.rf⟩
  · refine G.bipush X 13 dX5_weather_11 rfl (by decide) ?_
    refine G.iret X dX5_weather_13 ⟨Nat.le_refl _, Nat.le_refl _⟩ ⟨rfl, rfl, rfl, _, rfl, ?_⟩
    unfold weatherF
    rw [if_pos (by omega)]
    exact ⟨rfl, hC, Off.rf⟩
set_option maxHeartbeats 4000000 in
set_option maxRecDepth 100000 in
theorem c_X5_setPrice (l : Launch) (D : xD) (Bs sz : Nat) (kd : xKd) (rf : xRf) (M : xM) (a : Nat) (r : xR) (h : List xR) (sn : Option xR) (t : List Int) (x : Int) (hX : ShX kd rf a) (hV : Vr r) (hB : CB h sn) (hC : CSt M a r h sn t) (rx : IR x) : CtI l D Bs yX5_setPrice cX5_setPrice 3 (some .int) 3 [.ref a, vi x] sz kd rf M (fun q M' => q = (priceF x r).1 ∧ CSt M' a (actR (priceF x r).2 r) (actH (priceF x r).2 r h) sn t ∧ Off M M' a 215) := by
  refine Ctr.of (yv_X5_setPrice.1.2.2.2.2) (List.forall_mem_cons.mpr ⟨rfl, List.forall_mem_cons.mpr ⟨rfl, fun _ h => absurd h List.not_mem_nil⟩⟩) (Nat.le_of_ble_eq_true rfl) [some (.ref a), some (vi x), none] rfl ?_
  intro p e s m args below meth c X hin
  obtain ⟨hM, ⟨o, hho⟩, hsnf, hsn, htx⟩ := id hC
  have hVk := hV.k
  obtain ⟨n6, n6b⟩ := hV.1.n6
  obtain ⟨n7, n7b⟩ := hV.1.n7
  obtain ⟨hv0, hv1, hv2, hv3, hv6, hv7⟩ := hV.1.1
  obtain ⟨hb0, hb1, hb2, hb3, -, -, -, hb7, hb8⟩ := hM.1
  refine G.iload_n X 1 dX5_setPrice_0 rfl rfl ?_
  refine G.iconst X 2 dX5_setPrice_1 rfl ?_
  refine G.bipush X 4 dX5_setPrice_2 rfl (by decide) ?_
  refine G.sI3 (d := 0) X ml_X5_44 ys_X5_isWithin 7 dX5_setPrice_4 rfl (c_X5_isWithin l D Bs _ kd rf _ _ _ _ (by omega) (by omega) (by omega)) (by decide) ⟨Nat.zero_le _, Nat.zero_le _⟩ (Nat.le_of_ble_eq_true rfl) (fun r4 M4 h4 => ?_)
  obtain ⟨hr4, hm4⟩ := h4
  subst hr4
  obtain rfl := hm4.symm
  refine G.ifb_ne X 13 10 dX5_setPrice_7 (by decide) rfl (fun hc7 => ?_) (fun hc7 => ?_)
  · refine G.iload_n X 14 dX5_setPrice_13 rfl rfl ?_
    refine G.aload_n X 15 dX5_setPrice_14 rfl rfl ?_
    refine G.getR X fl_X5_10 18 dX5_setPrice_15 rfl (hX).1 (ShX.r0 hX) ?_
    refine G.getI X fl_X5_69 21 dX5_setPrice_18 rfl ((ShX.now hX)).1 (((ShX.now hX)).2.1 2 (by decide)) ?_
    refine G.icmp_ne X 27 24 dX5_setPrice_21 (by decide) rfl (by omega) (by omega) (fun hc21 => ?_) (fun hc21 => ?_)
    · refine G.aload_n X 28 dX5_setPrice_27 rfl rfl ?_
      refine G.getR X fl_X5_29 31 dX5_setPrice_28 rfl (hX).1 (ShX.r4 hX) ?_
      refine G.aload_n X 32 dX5_setPrice_31 rfl rfl ?_
      refine G.getR X fl_X5_10 35 dX5_setPrice_32 rfl (hX).1 (ShX.r0 hX) ?_
      refine G.vV1 (d := 2) X ml_X5_53 yv_X2_push 38 dX5_setPrice_35 rfl (c_X2_push l D Bs _ kd rf _ (a + 76) (a + 1) o h r (ShX.hist hX) (ShX.now hX) hVk hM hho hB.1 (by omega)) ⟨_, _, ((ShX.hist hX)).1, rfl, rfl⟩ (by decide) ⟨Nat.zero_le _, Nat.zero_le _⟩ (Nat.le_of_ble_eq_true rfl) (fun M35 h35 => ?_)
      have hC2 := hC.push hV.1.bn hB h35.1 h35.2
      have hO2 : Off M M35 a 215 := h35.2.mono (by omega)
      have hB2 := hB.push hV.1.bn
      have hM2 := hC2.1
      obtain ⟨hp0, hp1, hp2, hp3, -, hp5, -, hp7, hp8⟩ := hM2.1
      refine G.aload_n X 39 dX5_setPrice_38 rfl rfl ?_
      refine G.getR X fl_X5_10 42 dX5_setPrice_39 rfl (hX).1 (ShX.r0 hX) ?_
      refine G.getf (v := vi (r 2)) X fl_X5_69 45 dX5_setPrice_42 rfl ((ShX.now hX)).1 ((xV_int (((ShX.now hX)).2.1 2 (by decide))).trans (congrArg vi ?_)) ?_
      · exact hp2
      refine G.istore_n (ls' := [_, _, _]) X 46 dX5_setPrice_45 rfl (by decide) rfl ?_
      refine G.aload_n X 47 dX5_setPrice_46 rfl rfl ?_
      refine G.getR X fl_X5_10 50 dX5_setPrice_47 rfl (hX).1 (ShX.r0 hX) ?_
      refine G.iload_n X 51 dX5_setPrice_50 rfl rfl ?_
      refine G.putI X fl_X5_69 fi_4_2 rfl 54 dX5_setPrice_51 rfl ((ShX.now hX)).1 (((ShX.now hX)).2.1 2 (by decide)) ?_
      refine G.iload_n X 55 dX5_setPrice_54 rfl rfl ?_
      refine G.iret X dX5_setPrice_55 ⟨Nat.le_refl _, Nat.le_refl _⟩ ⟨rfl, rfl, rfl, _, rfl, ?_⟩
      unfold priceF
      rw [if_neg (by omega), if_neg (by omega)]
      exact ⟨rfl, hC2.now hB2 (hM2.set0 (k := 2) (j := 2) hV.1.bn (by decide)) (Off.mu (Off.rf) (by omega)), hO2.trans (Off.mono (b := a + 1) (n := 25) (Off.mu (Off.rf) (by omega)) (by omega))⟩
    · refine G.bipush X 26 dX5_setPrice_24 rfl (by decide) ?_
      refine G.iret X dX5_setPrice_26 ⟨Nat.le_refl _, Nat.le_refl _⟩ ⟨rfl, rfl, rfl, _, rfl, ?_⟩
      unfold priceF
      rw [if_neg (by omega), if_pos (by omega)]
      exact ⟨rfl, hC, Off.rf⟩
  · refine G.bipush X 12 dX5_setPrice_10 rfl (by decide) ?_
    refine G.iret X dX5_setPrice_12 ⟨Nat.le_refl _, Nat.le_refl _⟩ ⟨rfl, rfl, rfl, _, rfl, ?_⟩
    unfold priceF
    rw [if_pos (by omega)]
    exact ⟨rfl, hC, Off.rf⟩
set_option maxHeartbeats 4000000 in
set_option maxRecDepth 100000 in
theorem c_X5_addSet (l : Launch) (D : xD) (Bs sz : Nat) (kd : xKd) (rf : xRf) (M : xM) (a : Nat) (r : xR) (h : List xR) (sn : Option xR) (t : List Int) (x0 x1 x2 x3 : Int) (hX : ShX kd rf a) (hV : Vr r) (hB : CB h sn) (hC : CSt M a r h sn t) (rx0 : IR x0) (rx1 : IR x1) (rx2 : IR x2) (rx3 : IR x3) : CtI l D Bs yX5_addSet cX5_addSet 6 (some .int) 3 [.ref a, vi x0, vi x1, vi x2, vi x3] sz kd rf M (fun q M' => q = (addSetF x0 x1 x2 x3 r).1 ∧ CSt M' a (actR (addSetF x0 x1 x2 x3 r).2 r) (actH (addSetF x0 x1 x2 x3 r).2 r h) sn t ∧ Off M M' a 215) := by
  refine Ctr.of (yv_X5_addSet.1.2.2.2.2) (List.forall_mem_cons.mpr ⟨rfl, List.forall_mem_cons.mpr ⟨rfl, List.forall_mem_cons.mpr ⟨rfl, List.forall_mem_cons.mpr ⟨rfl, List.forall_mem_cons.mpr ⟨rfl, fun _ h => absurd h List.not_mem_nil⟩⟩⟩⟩⟩) (Nat.le_of_ble_eq_true rfl) [some (.ref a), some (vi x0), some (vi x1), some (vi x2), some (vi x3), none] rfl ?_
  intro p e s m args below meth c X hin
  obtain ⟨hM, ⟨o, hho⟩, hsnf, hsn, htx⟩ := id hC
  have hVk := hV.k
  obtain ⟨n6, n6b⟩ := hV.1.n6
  obtain ⟨n7, n7b⟩ := hV.1.n7
  obtain ⟨hv0, hv1, hv2, hv3, hv6, hv7⟩ := hV.1.1
  obtain ⟨hb0, hb1, hb2, hb3, -, -, -, hb7, hb8⟩ := hM.1
  refine G.iload_n X 1 dX5_addSet_0 rfl rfl ?_
  refine G.iconst X 2 dX5_addSet_1 rfl ?_
  refine G.bipush X 4 dX5_addSet_2 rfl (by decide) ?_
  refine G.sI3 (d := 0) X ml_X5_44 ys_X5_isWithin 7 dX5_addSet_4 rfl (c_X5_isWithin l D Bs _ kd rf _ _ _ _ (by omega) (by omega) (by omega)) (by decide) ⟨Nat.zero_le _, Nat.zero_le _⟩ (Nat.le_of_ble_eq_true rfl) (fun r4 M4 h4 => ?_)
  obtain ⟨hr4, hm4⟩ := h4
  subst hr4
  obtain rfl := hm4.symm
  refine G.ifb_eq X 53 10 dX5_addSet_7 (by decide) rfl (fun hc7 => ?_) (fun hc7 => ?_)
  · refine G.iconst X 54 dX5_addSet_53 rfl ?_
    refine G.istore (ls' := [_, _, _, _, _, _]) X 56 dX5_addSet_54 rfl (by decide) rfl ?_
    refine G.iload X 58 dX5_addSet_56 rfl rfl ?_
    refine G.if_ne X 64 61 dX5_addSet_58 (by decide) rfl (by omega) (fun hc58 => ?_) (fun hc58 => ?_)
    · exact absurd hc58 (by decide)
    · refine G.bipush X 63 dX5_addSet_61 rfl (by decide) ?_
      refine G.iret X dX5_addSet_63 ⟨Nat.le_refl _, Nat.le_refl _⟩ ⟨rfl, rfl, rfl, _, rfl, ?_⟩
      unfold addSetF
      rw [if_pos (by omega)]
      exact ⟨rfl, hC, Off.rf⟩
  · refine G.iload_n X 11 dX5_addSet_10 rfl rfl ?_
    refine G.bipush X 13 dX5_addSet_11 rfl (by decide) ?_
    refine G.sipush X 16 dX5_addSet_13 rfl (by decide) ?_
    refine G.sI3 (d := 0) X ml_X5_44 ys_X5_isWithin 19 dX5_addSet_16 rfl (c_X5_isWithin l D Bs _ kd rf _ _ _ _ (by omega) (by omega) (by omega)) (by decide) ⟨Nat.zero_le _, Nat.zero_le _⟩ (Nat.le_of_ble_eq_true rfl) (fun r16 M16 h16 => ?_)
    obtain ⟨hr16, hm16⟩ := h16
    subst hr16
    obtain rfl := hm16.symm
    refine G.ifb_eq X 53 22 dX5_addSet_19 (by decide) rfl (fun hc19 => ?_) (fun hc19 => ?_)
    · refine G.iconst X 54 dX5_addSet_53 rfl ?_
      refine G.istore (ls' := [_, _, _, _, _, _]) X 56 dX5_addSet_54 rfl (by decide) rfl ?_
      refine G.iload X 58 dX5_addSet_56 rfl rfl ?_
      refine G.if_ne X 64 61 dX5_addSet_58 (by decide) rfl (by omega) (fun hc58 => ?_) (fun hc58 => ?_)
      · exact absurd hc58 (by decide)
      · refine G.bipush X 63 dX5_addSet_61 rfl (by decide) ?_
        refine G.iret X dX5_addSet_63 ⟨Nat.le_refl _, Nat.le_refl _⟩ ⟨rfl, rfl, rfl, _, rfl, ?_⟩
        unfold addSetF
        rw [if_pos (by omega)]
        exact ⟨rfl, hC, Off.rf⟩
    · refine G.iload_n X 23 dX5_addSet_22 rfl rfl ?_
      refine G.iconst X 24 dX5_addSet_23 rfl ?_
      refine G.bipush X 26 dX5_addSet_24 rfl (by decide) ?_
      refine G.sI3 (d := 0) X ml_X5_44 ys_X5_isWithin 29 dX5_addSet_26 rfl (c_X5_isWithin l D Bs _ kd rf _ _ _ _ (by omega) (by omega) (by omega)) (by decide) ⟨Nat.zero_le _, Nat.zero_le _⟩ (Nat.le_of_ble_eq_true rfl) (fun r26 M26 h26 => ?_)
      obtain ⟨hr26, hm26⟩ := h26
      subst hr26
      obtain rfl := hm26.symm
      refine G.ifb_eq X 53 32 dX5_addSet_29 (by decide) rfl (fun hc29 => ?_) (fun hc29 => ?_)
      · refine G.iconst X 54 dX5_addSet_53 rfl ?_
        refine G.istore (ls' := [_, _, _, _, _, _]) X 56 dX5_addSet_54 rfl (by decide) rfl ?_
        refine G.iload X 58 dX5_addSet_56 rfl rfl ?_
        refine G.if_ne X 64 61 dX5_addSet_58 (by decide) rfl (by omega) (fun hc58 => ?_) (fun hc58 => ?_)
        · exact absurd hc58 (by decide)
        · refine G.bipush X 63 dX5_addSet_61 rfl (by decide) ?_
          refine G.iret X dX5_addSet_63 ⟨Nat.le_refl _, Nat.le_refl _⟩ ⟨rfl, rfl, rfl, _, rfl, ?_⟩
          unfold addSetF
          rw [if_pos (by omega)]
          exact ⟨rfl, hC, Off.rf⟩
      · refine G.iload_n X 33 dX5_addSet_32 rfl rfl ?_
        refine G.iload_n X 34 dX5_addSet_33 rfl rfl ?_
        refine G.icmp_gt X 53 37 dX5_addSet_34 (by decide) rfl (by omega) (by omega) (fun hc34 => ?_) (fun hc34 => ?_)
        · refine G.iconst X 54 dX5_addSet_53 rfl ?_
          refine G.istore (ls' := [_, _, _, _, _, _]) X 56 dX5_addSet_54 rfl (by decide) rfl ?_
          refine G.iload X 58 dX5_addSet_56 rfl rfl ?_
          refine G.if_ne X 64 61 dX5_addSet_58 (by decide) rfl (by omega) (fun hc58 => ?_) (fun hc58 => ?_)
          · exact absurd hc58 (by decide)
          · refine G.bipush X 63 dX5_addSet_61 rfl (by decide) ?_
            refine G.iret X dX5_addSet_63 ⟨Nat.le_refl _, Nat.le_refl _⟩ ⟨rfl, rfl, rfl, _, rfl, ?_⟩
            unfold addSetF
            rw [if_pos (by omega)]
            exact ⟨rfl, hC, Off.rf⟩
        · refine G.iload X 39 dX5_addSet_37 rfl rfl ?_
          refine G.bipush X 41 dX5_addSet_39 rfl (by decide) ?_
          refine G.bipush X 43 dX5_addSet_41 rfl (by decide) ?_
          refine G.sI3 (d := 0) X ml_X5_44 ys_X5_isWithin 46 dX5_addSet_43 rfl (c_X5_isWithin l D Bs _ kd rf _ _ _ _ (by omega) (by omega) (by omega)) (by decide) ⟨Nat.zero_le _, Nat.zero_le _⟩ (Nat.le_of_ble_eq_true rfl) (fun r43 M43 h43 => ?_)
          obtain ⟨hr43, hm43⟩ := h43
          subst hr43
          obtain rfl := hm43.symm
          refine G.ifb_eq X 53 49 dX5_addSet_46 (by decide) rfl (fun hc46 => ?_) (fun hc46 => ?_)
          · refine G.iconst X 54 dX5_addSet_53 rfl ?_
            refine G.istore (ls' := [_, _, _, _, _, _]) X 56 dX5_addSet_54 rfl (by decide) rfl ?_
            refine G.iload X 58 dX5_addSet_56 rfl rfl ?_
            refine G.if_ne X 64 61 dX5_addSet_58 (by decide) rfl (by omega) (fun hc58 => ?_) (fun hc58 => ?_)
            · exact absurd hc58 (by decide)
            · refine G.bipush X 63 dX5_addSet_61 rfl (by decide) ?_
              refine G.iret X dX5_addSet_63 ⟨Nat.le_refl _, Nat.le_refl _⟩ ⟨rfl, rfl, rfl, _, rfl, ?_⟩
              unfold addSetF
              rw [if_pos (by omega)]
              exact ⟨rfl, hC, Off.rf⟩
          · refine G.iconst X 50 dX5_addSet_49 rfl ?_
            refine G.goto X 54 dX5_addSet_50 (by decide) ?_
            refine G.istore (ls' := [_, _, _, _, _, _]) X 56 dX5_addSet_54 rfl (by decide) rfl ?_
            refine G.iload X 58 dX5_addSet_56 rfl rfl ?_
            refine G.if_ne X 64 61 dX5_addSet_58 (by decide) rfl (by omega) (fun hc58 => ?_) (fun hc58 => ?_)
            · refine G.aload_n X 65 dX5_addSet_64 rfl rfl ?_
              refine G.getR X fl_X5_10 68 dX5_addSet_65 rfl (hX).1 (ShX.r0 hX) ?_
              refine G.getI X fl_X5_72 71 dX5_addSet_68 rfl ((ShX.now hX)).1 (((ShX.now hX)).2.1 7 (by decide)) ?_
              refine G.bipush X 73 dX5_addSet_71 rfl (by decide) ?_
              refine G.icmp_lt X 79 76 dX5_addSet_73 (by decide) rfl (by omega) (by omega) (fun hc73 => ?_) (fun hc73 => ?_)
              · refine G.aload_n X 80 dX5_addSet_79 rfl rfl ?_
                refine G.getR X fl_X5_29 83 dX5_addSet_80 rfl (hX).1 (ShX.r4 hX) ?_
                refine G.aload_n X 84 dX5_addSet_83 rfl rfl ?_
                refine G.getR X fl_X5_10 87 dX5_addSet_84 rfl (hX).1 (ShX.r0 hX) ?_
                refine G.vV1 (d := 2) X ml_X5_53 yv_X2_push 90 dX5_addSet_87 rfl (c_X2_push l D Bs _ kd rf _ (a + 76) (a + 1) o h r (ShX.hist hX) (ShX.now hX) hVk hM hho hB.1 (by omega)) ⟨_, _, ((ShX.hist hX)).1, rfl, rfl⟩ (by decide) ⟨Nat.zero_le _, Nat.zero_le _⟩ (Nat.le_of_ble_eq_true rfl) (fun M87 h87 => ?_)
                have hC2 := hC.push hV.1.bn hB h87.1 h87.2
                have hO2 : Off M M87 a 215 := h87.2.mono (by omega)
                have hB2 := hB.push hV.1.bn
                have hM2 := hC2.1
                obtain ⟨hp0, hp1, hp2, hp3, -, hp5, -, hp7, hp8⟩ := hM2.1
                refine G.aload_n X 91 dX5_addSet_90 rfl rfl ?_
                refine G.getR X fl_X5_10 94 dX5_addSet_91 rfl (hX).1 (ShX.r0 hX) ?_
                refine G.iload_n X 95 dX5_addSet_94 rfl rfl ?_
                refine G.iload_n X 96 dX5_addSet_95 rfl rfl ?_
                refine G.iload_n X 97 dX5_addSet_96 rfl rfl ?_
                refine G.iload X 99 dX5_addSet_97 rfl rfl ?_
                refine G.vI4 (d := 1) X ml_X5_75 yv_X4_appendSet 102 dX5_addSet_99 rfl (c_X4_appendSet l D Bs _ kd rf _ (a + 1) _ _ _ _ r ((ShX.now hX)) hVk hM2 (by omega)) ⟨_, _, ((ShX.now hX)).1, rfl, rfl⟩ (by decide) ⟨Nat.zero_le _, Nat.zero_le _⟩ (Nat.le_of_ble_eq_true rfl) (fun r99 M99 h99 => ?_)
                refine G.iret X dX5_addSet_102 ⟨Nat.le_refl _, Nat.le_refl _⟩ ⟨rfl, rfl, rfl, _, rfl, ?_⟩
                unfold addSetF
                rw [if_neg (by omega), if_neg (by omega)]
                exact ⟨h99.1.trans n6.symm, hC2.now hB2 h99.2.1 h99.2.2, hO2.trans (h99.2.2.mono (by omega))⟩
              · refine G.bipush X 78 dX5_addSet_76 rfl (by decide) ?_
                refine G.iret X dX5_addSet_78 ⟨Nat.le_refl _, Nat.le_refl _⟩ ⟨rfl, rfl, rfl, _, rfl, ?_⟩
                unfold addSetF
                rw [if_neg (by omega), if_pos (by omega)]
                exact ⟨rfl, hC, Off.rf⟩
            · exact absurd hc58 (by decide)
set_option maxHeartbeats 4000000 in
set_option maxRecDepth 100000 in
theorem c_X5_addSite (l : Launch) (D : xD) (Bs sz : Nat) (kd : xKd) (rf : xRf) (M : xM) (a : Nat) (r : xR) (h : List xR) (sn : Option xR) (t : List Int) (x0 x1 x2 x3 : Int) (hX : ShX kd rf a) (hV : Vr r) (hB : CB h sn) (hC : CSt M a r h sn t) (rx0 : IR x0) (rx1 : IR x1) (rx2 : IR x2) (rx3 : IR x3) : CtI l D Bs yX5_addSite cX5_addSite 5 (some .int) 3 [.ref a, vi x0, vi x1, vi x2, vi x3] sz kd rf M (fun q M' => q = (addSiteF x0 x1 x2 x3 r).1 ∧ CSt M' a (actR (addSiteF x0 x1 x2 x3 r).2 r) (actH (addSiteF x0 x1 x2 x3 r).2 r h) sn t ∧ Off M M' a 215) := by
  refine Ctr.of (yv_X5_addSite.1.2.2.2.2) (List.forall_mem_cons.mpr ⟨rfl, List.forall_mem_cons.mpr ⟨rfl, List.forall_mem_cons.mpr ⟨rfl, List.forall_mem_cons.mpr ⟨rfl, List.forall_mem_cons.mpr ⟨rfl, fun _ h => absurd h List.not_mem_nil⟩⟩⟩⟩⟩) (Nat.le_of_ble_eq_true rfl) [some (.ref a), some (vi x0), some (vi x1), some (vi x2), some (vi x3)] rfl ?_
  intro p e s m args below meth c X hin
  obtain ⟨hM, ⟨o, hho⟩, hsnf, hsn, htx⟩ := id hC
  have hVk := hV.k
  obtain ⟨n6, n6b⟩ := hV.1.n6
  obtain ⟨n7, n7b⟩ := hV.1.n7
  obtain ⟨hv0, hv1, hv2, hv3, hv6, hv7⟩ := hV.1.1
  obtain ⟨hb0, hb1, hb2, hb3, -, -, -, hb7, hb8⟩ := hM.1
  refine G.iload_n X 1 dX5_addSite_0 rfl rfl ?_
  refine G.iconst X 2 dX5_addSite_1 rfl ?_
  refine G.bipush X 4 dX5_addSite_2 rfl (by decide) ?_
  refine G.sI3 (d := 0) X ml_X5_44 ys_X5_isWithin 7 dX5_addSite_4 rfl (c_X5_isWithin l D Bs _ kd rf _ _ _ _ (by omega) (by omega) (by omega)) (by decide) ⟨Nat.zero_le _, Nat.zero_le _⟩ (Nat.le_of_ble_eq_true rfl) (fun r4 M4 h4 => ?_)
  obtain ⟨hr4, hm4⟩ := h4
  subst hr4
  obtain rfl := hm4.symm
  refine G.ifb_eq X 33 10 dX5_addSite_7 (by decide) rfl (fun hc7 => ?_) (fun hc7 => ?_)
  · refine G.bipush X 35 dX5_addSite_33 rfl (by decide) ?_
    refine G.iret X dX5_addSite_35 ⟨Nat.le_refl _, Nat.le_refl _⟩ ⟨rfl, rfl, rfl, _, rfl, ?_⟩
    unfold addSiteF
    rw [if_pos (by omega)]
    exact ⟨rfl, hC, Off.rf⟩
  · refine G.iload_n X 11 dX5_addSite_10 rfl rfl ?_
    refine G.iconst X 12 dX5_addSite_11 rfl ?_
    refine G.bipush X 14 dX5_addSite_12 rfl (by decide) ?_
    refine G.sI3 (d := 0) X ml_X5_44 ys_X5_isWithin 17 dX5_addSite_14 rfl (c_X5_isWithin l D Bs _ kd rf _ _ _ _ (by omega) (by omega) (by omega)) (by decide) ⟨Nat.zero_le _, Nat.zero_le _⟩ (Nat.le_of_ble_eq_true rfl) (fun r14 M14 h14 => ?_)
    obtain ⟨hr14, hm14⟩ := h14
    subst hr14
    obtain rfl := hm14.symm
    refine G.ifb_eq X 33 20 dX5_addSite_17 (by decide) rfl (fun hc17 => ?_) (fun hc17 => ?_)
    · refine G.bipush X 35 dX5_addSite_33 rfl (by decide) ?_
      refine G.iret X dX5_addSite_35 ⟨Nat.le_refl _, Nat.le_refl _⟩ ⟨rfl, rfl, rfl, _, rfl, ?_⟩
      unfold addSiteF
      rw [if_pos (by omega)]
      exact ⟨rfl, hC, Off.rf⟩
    · refine G.aload_n X 21 dX5_addSite_20 rfl rfl ?_
      refine G.getR X fl_X5_10 24 dX5_addSite_21 rfl (hX).1 (ShX.r0 hX) ?_
      refine G.iload_n X 25 dX5_addSite_24 rfl rfl ?_
      refine G.iload X 27 dX5_addSite_25 rfl rfl ?_
      refine G.vI2 (d := 1) X ml_X5_103 yv_X4_allowsHours 30 dX5_addSite_27 rfl (c_X4_allowsHours l D Bs _ kd rf _ (a + 1) _ _ ((ShX.now hX)) (by omega) (by omega) (by omega)) ⟨_, _, ((ShX.now hX)).1, rfl, rfl⟩ (by decide) ⟨Nat.zero_le _, Nat.zero_le _⟩ (Nat.le_of_ble_eq_true rfl) (fun r27 M27 h27 => ?_)
      obtain ⟨hr27, hm27⟩ := h27
      subst hr27
      obtain rfl := hm27.symm
      refine G.ifb_ne X 36 33 dX5_addSite_30 (by decide) rfl (fun hc30 => ?_) (fun hc30 => ?_)
      · refine G.aload_n X 37 dX5_addSite_36 rfl rfl ?_
        refine G.getR X fl_X5_10 40 dX5_addSite_37 rfl (hX).1 (ShX.r0 hX) ?_
        refine G.getI X fl_X5_107 43 dX5_addSite_40 rfl ((ShX.now hX)).1 (((ShX.now hX)).2.1 8 (by decide)) ?_
        refine G.bipush X 45 dX5_addSite_43 rfl (by decide) ?_
        refine G.icmp_lt X 51 48 dX5_addSite_45 (by decide) rfl (by omega) (by omega) (fun hc45 => ?_) (fun hc45 => ?_)
        · refine G.aload_n X 52 dX5_addSite_51 rfl rfl ?_
          refine G.getR X fl_X5_29 55 dX5_addSite_52 rfl (hX).1 (ShX.r4 hX) ?_
          refine G.aload_n X 56 dX5_addSite_55 rfl rfl ?_
          refine G.getR X fl_X5_10 59 dX5_addSite_56 rfl (hX).1 (ShX.r0 hX) ?_
          refine G.vV1 (d := 2) X ml_X5_53 yv_X2_push 62 dX5_addSite_59 rfl (c_X2_push l D Bs _ kd rf _ (a + 76) (a + 1) o h r (ShX.hist hX) (ShX.now hX) hVk hM hho hB.1 (by omega)) ⟨_, _, ((ShX.hist hX)).1, rfl, rfl⟩ (by decide) ⟨Nat.zero_le _, Nat.zero_le _⟩ (Nat.le_of_ble_eq_true rfl) (fun M59 h59 => ?_)
          have hC2 := hC.push hV.1.bn hB h59.1 h59.2
          have hO2 : Off M M59 a 215 := h59.2.mono (by omega)
          have hB2 := hB.push hV.1.bn
          have hM2 := hC2.1
          obtain ⟨hp0, hp1, hp2, hp3, -, hp5, -, hp7, hp8⟩ := hM2.1
          refine G.aload_n X 63 dX5_addSite_62 rfl rfl ?_
          refine G.getR X fl_X5_10 66 dX5_addSite_63 rfl (hX).1 (ShX.r0 hX) ?_
          refine G.iload_n X 67 dX5_addSite_66 rfl rfl ?_
          refine G.iload_n X 68 dX5_addSite_67 rfl rfl ?_
          refine G.iload_n X 69 dX5_addSite_68 rfl rfl ?_
          refine G.iload X 71 dX5_addSite_69 rfl rfl ?_
          refine G.vI4 (d := 1) X ml_X5_110 yv_X4_appendSite 74 dX5_addSite_71 rfl (c_X4_appendSite l D Bs _ kd rf _ (a + 1) _ _ _ _ r ((ShX.now hX)) hVk hM2 (by omega)) ⟨_, _, ((ShX.now hX)).1, rfl, rfl⟩ (by decide) ⟨Nat.zero_le _, Nat.zero_le _⟩ (Nat.le_of_ble_eq_true rfl) (fun r71 M71 h71 => ?_)
          refine G.iret X dX5_addSite_74 ⟨Nat.le_refl _, Nat.le_refl _⟩ ⟨rfl, rfl, rfl, _, rfl, ?_⟩
          unfold addSiteF
          rw [if_neg (by omega), if_neg (by omega)]
          exact ⟨h71.1.trans n7.symm, hC2.now hB2 h71.2.1 h71.2.2, hO2.trans (h71.2.2.mono (by omega))⟩
        · refine G.bipush X 50 dX5_addSite_48 rfl (by decide) ?_
          refine G.iret X dX5_addSite_50 ⟨Nat.le_refl _, Nat.le_refl _⟩ ⟨rfl, rfl, rfl, _, rfl, ?_⟩
          unfold addSiteF
          rw [if_neg (by omega), if_pos (by omega)]
          exact ⟨rfl, hC, Off.rf⟩
      · refine G.bipush X 35 dX5_addSite_33 rfl (by decide) ?_
        refine G.iret X dX5_addSite_35 ⟨Nat.le_refl _, Nat.le_refl _⟩ ⟨rfl, rfl, rfl, _, rfl, ?_⟩
        unfold addSiteF
        rw [if_pos (by omega)]
        exact ⟨rfl, hC, Off.rf⟩
