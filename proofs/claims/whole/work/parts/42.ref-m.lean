theorem MSt.off {M M' : xM} {y : Nat} {r : xR} {h : List xR} {sn : Option xR} {t t' : List Int} (hM : MSt M y r h sn t) (h1 : M' (y + 1) = M (y + 1)) (h2 : M' (y + 2) = M (y + 2)) (h3 : M' (y + 3) = M (y + 3)) (e2 : M' y 2 = M y 2) (e4 : M' y 4 = M y 4) (ht : TxM M' y t') : MSt M' y r h sn t' := by
  obtain ⟨hr, hH, hs, hq, -⟩ := hM
  refine ⟨h1.trans hr, ⟨e2.trans hH.1, hH.2.1, fun j q hj k hk => ?_⟩, e4.trans hs, fun q hsn k hk => ?_, ht⟩
  · rw [h2]
    exact hH.2.2 j q hj k hk
  · rw [h3]
    exact hq q hsn k hk
set_option maxHeartbeats 1000000 in
set_option maxRecDepth 100000 in
theorem c_X6_clearText (l : Launch) (D : xD) (Bs sz : Nat) (kd : xKd) (rf : xRf) (M : xM) (y : Nat) (h : List xR) (sn : Option xR) (t : List Int) (hY : ShY kd rf y) (hM : MSt M y (M (y + 1)) h sn t) : CtI l D Bs yX6_clearText cX6_clearText 2 (some .int) 0 [.ref y] sz kd rf M (fun q M' => q = (t.length : Int) ∧ MSt M' y (M (y + 1)) h sn [] ∧ Off M M' y 8) := by
  refine Ctr.of (yv_X6_clearText.1.2.2.2.2) (List.forall_mem_cons.mpr ⟨rfl, fun _ h => absurd h List.not_mem_nil⟩) (Nat.le_of_ble_eq_true rfl) [some (.ref y), none] rfl ?_
  intro p e s m args below meth c X hin
  refine G.aload_n X 1 dX6_clearText_0 rfl rfl ?_
  refine G.getf (v := vi ((t.length : Int))) X fl_X6_140 4 dX6_clearText_1 rfl (hY).1 ((xV_int ((hY).2.1 7 (by decide))).trans (congrArg vi ?_)) ?_
  · exact hM.2.2.2.2.1.1
  refine G.istore_n (ls' := [_, _]) X 5 dX6_clearText_4 rfl (by decide) rfl ?_
  refine G.aload_n X 6 dX6_clearText_5 rfl rfl ?_
  refine G.iconst X 7 dX6_clearText_6 rfl ?_
  refine G.putI X fl_X6_140 fi_6_7 rfl 10 dX6_clearText_7 rfl (hY).1 ((hY).2.1 7 (by decide)) ?_
  refine G.iload_n X 11 dX6_clearText_10 rfl rfl ?_
  refine G.iret X dX6_clearText_11 ⟨Nat.le_refl _, Nat.le_refl _⟩ ⟨rfl, rfl, rfl, _, rfl, ?_⟩
  exact ⟨rfl, hM.off (ms_ne (by omega)) (ms_ne (by omega)) (ms_ne (by omega)) (mu_ne (Or.inr (by decide))) (mu_ne (Or.inr (by decide))) ⟨⟨mu_same, by decide⟩, fun j hj => absurd hj (Nat.not_lt_zero j)⟩, Off.mu Off.rf (by omega)⟩
set_option maxHeartbeats 1000000 in
set_option maxRecDepth 100000 in
theorem c_X6_keep (l : Launch) (D : xD) (Bs sz : Nat) (kd : xKd) (rf : xRf) (M : xM) (y : Nat) (h : List xR) (sn : Option xR) (t : List Int) (hY : ShY kd rf y) (hM : MSt M y (M (y + 1)) h sn t) : CtI l D Bs yX6_keep cX6_keep 2 (some .int) 0 [.ref y] sz kd rf M (fun q M' => q = (M (y + 1)) 0 ∧ MSt M' y (M (y + 1)) h (some (M (y + 1))) t ∧ Off M M' y 8) := by
  refine Ctr.of (yv_X6_keep.1.2.2.2.2) (List.forall_mem_cons.mpr ⟨rfl, fun _ h => absurd h List.not_mem_nil⟩) (Nat.le_of_ble_eq_true rfl) [some (.ref y), none] rfl ?_
  intro p e s m args below meth c X hin
  have L2 : ∀ (k : Nat) (i : Nat) (M1 : xM), i + k = 236 → (∀ a, a ≠ y + 3 → M1 a = M a) → (∀ z, z < i → M1 (y + 3) z = (M (y + 1)) z) → G p l e (rmd 0) s m args below meth c D Bs 2 0 0 (MQ below (xQ D Bs (pI sz kd rf (fun q M' => q = (M (y + 1)) 0 ∧ MSt M' y (M (y + 1)) h (some (M (y + 1))) t ∧ Off M M' y 8))) args s 0 0 (fun q => Bs ≤ q)) sz kd rf (M1) 2 [some (.ref y), some (vi (i : Int))] [] := by
    intro k
    induction k with
    | zero =>
      intro i M1 hik hA hB
      obtain rfl : i = 236 := by omega
      refine G.iload_n X 3 dX6_keep_2 rfl rfl ?_
      refine G.sipush X 6 dX6_keep_3 rfl (by decide) ?_
      refine G.icmp_ge X 27 9 dX6_keep_6 (by decide) rfl (by omega) (by omega) (fun hc6 => ?_) (fun hc6 => ?_)
      · refine G.aload_n X 28 dX6_keep_27 rfl rfl ?_
        refine G.iconst X 29 dX6_keep_28 rfl ?_
        refine G.putZ X fl_X6_160 fi_6_4 32 dX6_keep_29 rfl (hY).1 ((hY).2.1 4 (by decide)) (Or.inr rfl) ?_
        refine G.aload_n X 33 dX6_keep_32 rfl rfl ?_
        refine G.getR X fl_X6_7 36 dX6_keep_33 rfl (hY).1 (ShY.r0 hY) ?_
        refine G.iconst X 37 dX6_keep_36 rfl ?_
        refine G.iald X (i := 0) 38 dX6_keep_37 rfl ((ShY.a0 hY)).1 (((ShY.a0 hY)).2 _) rfl (by omega) (by decide) ?_
        refine G.iret X dX6_keep_38 ⟨Nat.le_refl _, Nat.le_refl _⟩ ⟨rfl, rfl, rfl, _, rfl, ?_⟩
        have hN : ∀ a, a ≠ y → mu M1 y 4 1 a = M1 a := fun a ha => ms_ne ha
        refine ⟨?_, ⟨?_, ⟨?_, hM.2.1.2.1, fun j q hj k hk => ?_⟩, mu_same, fun q hq k hk => ?_, ⟨?_, hM.2.2.2.2.1.2⟩, fun j hj => ?_⟩, fun a ha => ?_⟩
        · rw [hN _ (by omega), hA _ (by omega)]
        · rw [hN _ (by omega), hA _ (by omega)]
        · rw [mu_ne (Or.inr (by decide)), hA _ (by omega)]
          exact hM.2.1.1
        · rw [hN _ (by omega), hA _ (by omega)]
          exact hM.2.1.2.2 j q hj k hk
        · rw [hN _ (by omega), hB k hk, Option.some.inj hq]
        · rw [mu_ne (Or.inr (by decide)), hA _ (by omega)]
          exact hM.2.2.2.2.1.1
        · rw [hN _ (by omega), hA _ (by omega)]
          exact hM.2.2.2.2.2 j hj
        · rw [hN _ (by omega), hA _ (by omega)]
      · exfalso; omega
    | succ k ih =>
      intro i M1 hik hA hB
      refine G.iload_n X 3 dX6_keep_2 rfl rfl ?_
      refine G.sipush X 6 dX6_keep_3 rfl (by decide) ?_
      refine G.icmp_ge X 27 9 dX6_keep_6 (by decide) rfl (by omega) (by omega) (fun hc6 => ?_) (fun hc6 => ?_)
      · exfalso; omega
      · refine G.aload_n X 10 dX6_keep_9 rfl rfl ?_
        refine G.getR X fl_X6_16 13 dX6_keep_10 rfl (hY).1 (ShY.r3 hY) ?_
        refine G.iload_n X 14 dX6_keep_13 rfl rfl ?_
        refine G.aload_n X 15 dX6_keep_14 rfl rfl ?_
        refine G.getR X fl_X6_7 18 dX6_keep_15 rfl (hY).1 (ShY.r0 hY) ?_
        refine G.iload_n X 19 dX6_keep_18 rfl rfl ?_
        refine G.iald X (i := (i)) 20 dX6_keep_19 rfl ((ShY.a0 hY)).1 (((ShY.a0 hY)).2 _) rfl (by omega) (by decide) ?_
        refine G.iast X (i := (i)) 21 dX6_keep_20 rfl ((ShY.a3 hY)).1 (((ShY.a3 hY)).2 _) rfl (by omega) (by decide) ?_
        refine G.iinc (ls' := [_, _]) X 24 dX6_keep_21 rfl rfl (by decide) rfl ?_
        refine G.goto X 2 dX6_keep_24 (by decide) ?_
        refine ih (i + 1) _ (by omega) (fun a ha => (ms_ne ha).trans (hA a ha)) (fun z hz => ?_)
        by_cases e : z = i
        · subst e
          rw [mu_same, hA _ (by omega)]
        · rw [mu_ne (Or.inr e)]
          exact hB z (by omega)
  refine G.iconst X 1 dX6_keep_0 rfl ?_
  refine G.istore_n (ls' := [_, _]) X 2 dX6_keep_1 rfl (by decide) rfl ?_
  exact L2 236 0 M (by omega) (fun a _ => rfl) (fun z hz => absurd hz (Nat.not_lt_zero z))
set_option maxHeartbeats 1000000 in
set_option maxRecDepth 100000 in
theorem c_X6_restore0 (l : Launch) (D : xD) (Bs sz : Nat) (kd : xKd) (rf : xRf) (M : xM) (y : Nat) (h : List xR) (t : List Int) (hY : ShY kd rf y) (hM : MSt M y (M (y + 1)) h none t) : CtI l D Bs yX6_restore cX6_restore 2 (some .int) 1 [.ref y] sz kd rf M (fun q M' => q = -5 ∧ M' = M) := by
  refine Ctr.of (yv_X6_restore.1.2.2.2.2) (List.forall_mem_cons.mpr ⟨rfl, fun _ h => absurd h List.not_mem_nil⟩) (Nat.le_of_ble_eq_true rfl) [some (.ref y), none] rfl ?_
  intro p e s m args below meth c X hin
  refine G.aload_n X 1 dX6_restore_0 rfl rfl ?_
  refine G.getf (v := vi (0)) X fl_X6_160 4 dX6_restore_1 rfl (hY).1 ((xV_int ((hY).2.1 4 (by decide))).trans (congrArg vi ?_)) ?_
  · exact hM.2.2.1
  refine G.if_ne X 10 7 dX6_restore_4 (by decide) rfl (by omega) (fun hc4 => ?_) (fun hc4 => ?_)
  · exact absurd rfl hc4
  · refine G.bipush X 9 dX6_restore_7 rfl (by decide) ?_
    refine G.iret X dX6_restore_9 ⟨Nat.le_refl _, Nat.le_refl _⟩ ⟨rfl, rfl, rfl, _, rfl, ?_⟩
    exact ⟨rfl, rfl⟩
set_option maxHeartbeats 1000000 in
set_option maxRecDepth 100000 in
theorem c_X6_restore1 (l : Launch) (D : xD) (Bs sz : Nat) (kd : xKd) (rf : xRf) (M : xM) (y : Nat) (q0 : xR) (h : List xR) (t : List Int) (hY : ShY kd rf y) (hM : MSt M y (M (y + 1)) h (some q0) t) (hz0 : ∀ z, 236 ≤ z → q0 z = (M (y + 1)) z) : CtI l D Bs yX6_restore cX6_restore 2 (some .int) 1 [.ref y] sz kd rf M (fun q M' => q = q0 0 ∧ MSt M' y q0 (((M (y + 1)) :: h).take 5) (some q0) t ∧ Off M M' y 8) := by
  refine Ctr.of (yv_X6_restore.1.2.2.2.2) (List.forall_mem_cons.mpr ⟨rfl, fun _ h => absurd h List.not_mem_nil⟩) (Nat.le_of_ble_eq_true rfl) [some (.ref y), none] rfl ?_
  intro p e s m args below meth c X hin
  have L16 : ∀ (k : Nat) (i : Nat) (M0 M1 : xM), i + k = 236 → HiR M0 y (((M (y + 1)) :: h).take 5) ∧ OfH M M0 y → (∀ a, a ≠ y + 1 → M1 a = M0 a) → (∀ z, z < i → M1 (y + 1) z = q0 z) → (∀ z, i ≤ z → M1 (y + 1) z = (M (y + 1)) z) → G p l e (rmd 1) s m args below meth c D Bs 2 0 0 (MQ below (xQ D Bs (pI sz kd rf (fun q M' => q = q0 0 ∧ MSt M' y q0 (((M (y + 1)) :: h).take 5) (some q0) t ∧ Off M M' y 8))) args s 0 0 (fun q => Bs ≤ q)) sz kd rf (M1) 16 [some (.ref y), some (vi (i : Int))] [] := by
    intro k
    induction k with
    | zero =>
      intro i M0 M1 hik hh0 hA hB hC
      obtain rfl : i = 236 := by omega
      refine G.iload_n X 17 dX6_restore_16 rfl rfl ?_
      refine G.sipush X 20 dX6_restore_17 rfl (by decide) ?_
      refine G.icmp_ge X 41 23 dX6_restore_20 (by decide) rfl (by omega) (by omega) (fun hc20 => ?_) (fun hc20 => ?_)
      · refine G.aload_n X 42 dX6_restore_41 rfl rfl ?_
        refine G.getR X fl_X6_7 45 dX6_restore_42 rfl (hY).1 (ShY.r0 hY) ?_
        refine G.iconst X 46 dX6_restore_45 rfl ?_
        refine G.iald X (i := 0) 47 dX6_restore_46 rfl ((ShY.a0 hY)).1 (((ShY.a0 hY)).2 _) rfl (by omega) (by decide) ?_
        refine G.iret X dX6_restore_47 ⟨Nat.le_refl _, Nat.le_refl _⟩ ⟨rfl, rfl, rfl, _, rfl, ?_⟩
        refine ⟨hB 0 (by decide), hM.act hh0 q0 (funext (fun a => ?_))⟩
        by_cases ha : a = y + 1
        · subst ha
          rw [ms_same]
          funext z
          by_cases hz : z < 236
          · exact hB z hz
          · rw [hC z (by omega)]
            exact (hz0 z (by omega)).symm
        · rw [ms_ne ha]
          exact hA a ha
      · exfalso; omega
    | succ k ih =>
      intro i M0 M1 hik hh0 hA hB hC
      refine G.iload_n X 17 dX6_restore_16 rfl rfl ?_
      refine G.sipush X 20 dX6_restore_17 rfl (by decide) ?_
      refine G.icmp_ge X 41 23 dX6_restore_20 (by decide) rfl (by omega) (by omega) (fun hc20 => ?_) (fun hc20 => ?_)
      · exfalso; omega
      · refine G.aload_n X 24 dX6_restore_23 rfl rfl ?_
        refine G.getR X fl_X6_7 27 dX6_restore_24 rfl (hY).1 (ShY.r0 hY) ?_
        refine G.iload_n X 28 dX6_restore_27 rfl rfl ?_
        refine G.aload_n X 29 dX6_restore_28 rfl rfl ?_
        refine G.getR X fl_X6_16 32 dX6_restore_29 rfl (hY).1 (ShY.r3 hY) ?_
        refine G.iload_n X 33 dX6_restore_32 rfl rfl ?_
        refine G.iald X (i := (i)) 34 dX6_restore_33 rfl ((ShY.a3 hY)).1 (((ShY.a3 hY)).2 _) rfl (by omega) (by decide) ?_
        refine G.iast X (i := (i)) 35 dX6_restore_34 rfl ((ShY.a0 hY)).1 (((ShY.a0 hY)).2 _) rfl (by omega) (by decide) ?_
        refine G.iinc (ls' := [_, _]) X 38 dX6_restore_35 rfl rfl (by decide) rfl ?_
        refine G.goto X 16 dX6_restore_38 (by decide) ?_
        refine ih (i + 1) M0 _ (by omega) hh0 (fun a ha => (ms_ne ha).trans (hA a ha)) (fun z hz => ?_) (fun z hz => ?_)
        · by_cases e : z = i
          · subst e
            rw [mu_same, hA _ (by omega), hh0.2.1 _ (by omega) (by omega)]
            exact hM.2.2.2.1 q0 rfl z (by omega)
          · rw [mu_ne (Or.inr e)]
            exact hB z (by omega)
        · rw [mu_ne (Or.inr (by omega))]
          exact hC z (by omega)
  refine G.aload_n X 1 dX6_restore_0 rfl rfl ?_
  refine G.getf (v := vi (1)) X fl_X6_160 4 dX6_restore_1 rfl (hY).1 ((xV_int ((hY).2.1 4 (by decide))).trans (congrArg vi ?_)) ?_
  · exact hM.2.2.1
  refine G.if_ne X 10 7 dX6_restore_4 (by decide) rfl (by omega) (fun hc4 => ?_) (fun hc4 => ?_)
  · refine G.aload_n X 11 dX6_restore_10 rfl rfl ?_
    refine G.vV0 (d := 0) X ml_X6_41 yv_X6_record 14 dX6_restore_11 rfl (c_X6_record l D Bs _ kd rf _ y h hY hM.2.1) ⟨_, _, (hY).1, rfl, rfl⟩ (by decide) ⟨Nat.zero_le _, Nat.zero_le _⟩ (Nat.le_of_ble_eq_true rfl) (fun M11 h11 => ?_)
    have e11 : M11 (y + 1) = M (y + 1) := h11.2.1 _ (by omega) (by omega)
    refine G.iconst X 15 dX6_restore_14 rfl ?_
    refine G.istore_n (ls' := [_, _]) X 16 dX6_restore_15 rfl (by decide) rfl ?_
    exact L16 236 0 M11 M11 (by omega) h11 (fun a _ => rfl) (fun z hz => absurd hz (Nat.not_lt_zero z)) (fun z _ => by rw [e11])
  · exact absurd hc4 (by decide)
