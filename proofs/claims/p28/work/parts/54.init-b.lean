def HsP (a i : Nat) (kd : xKd) (rf : xRf) (M : xM) (kd1 : xKd) (rf1 : xRf) (M1 : xM) : Prop := Old a kd rf M kd1 rf1 M1 ∧ kd1 a = some (.inl 2) ∧ rf1 a 0 = some (.ref (a + 1)) ∧ (∀ k, 0 < k ∧ k < 3 → rf1 a k = none) ∧ kd1 (a + 1) = some (.inr (4, 5)) ∧ (∀ j, j < i → rf1 (a + 1) j = some (.ref (a + 2 + 25 * j)) ∧ ShSt kd1 rf1 (a + 2 + 25 * j)) ∧ ∀ k, M1 a k = 0
theorem Old.born {q : Nat} {kd kd3 : xKd} {rf rf3 : xRf} {M M3 : xM} {k : Nat ⊕ (Nat × Nat)} {g : Nat → Option Value} (h : Old q (kn kd q k) (rn rf q g) (ms M q z0) kd3 rf3 M3) : Old q kd rf M kd3 rf3 M3 := fun x hx => ⟨(h x hx).1.trans (kn_ne (by omega)), fun j => ((h x hx).2.1 j).trans (rn_ne (by omega)), (h x hx).2.2.trans (ms_ne (by omega))⟩
theorem HsP.s {a i : Nat} {kd kd1 kd3 : xKd} {rf rf1 rf3 : xRf} {M M1 M3 : xM} (h : HsP a i kd rf M kd1 rf1 M1) (hS : ShSt kd3 rf3 (a + 2 + 25 * i)) (hx : Old (a + 2 + 25 * i) kd1 rf1 M1 kd3 rf3 M3) : HsP a (i + 1) kd rf M kd3 (ru rf3 (a + 1) i (.ref (a + 2 + 25 * i))) M3 := by
  obtain ⟨hO, k0, r0, r1, k1, hs, hm⟩ := h
  have er : ∀ x k, x < a + 2 + 25 * i → x ≠ a + 1 → ru rf3 (a + 1) i (.ref (a + 2 + 25 * i)) x k = rf1 x k := fun x k h1 h2 => (ru_ne (Or.inl h2)).trans ((hx x h1).2.1 k)
  refine ⟨fun x h1 => ⟨(hx x (by omega)).1.trans (hO x h1).1, fun k => (er x k (by omega) (by omega)).trans ((hO x h1).2.1 k), (hx x (by omega)).2.2.trans (hO x h1).2.2⟩, (hx a (by omega)).1.trans k0, (er a 0 (by omega) (by omega)).trans r0, fun k hk => (er a k (by omega) (by omega)).trans (r1 k hk), (hx _ (by omega)).1.trans k1, fun j hj => ?_, fun k => ?_⟩
  · by_cases e : j = i
    · subst e
      exact ⟨ru_same, hS.old (fun x h1 h2 => ⟨rfl, fun k => ru_ne (Or.inl (by omega))⟩)⟩
    · obtain ⟨g1, g2⟩ := hs j (by omega)
      exact ⟨(ru_ne (Or.inr e)).trans (((hx _ (by omega)).2.1 j).trans g1), g2.old (fun x h1 h2 => ⟨(hx x (by omega)).1, fun k => er x k (by omega) (by omega)⟩)⟩
  · rw [(hx a (by omega)).2.2]
    exact hm k
def TxP (a i : Nat) (kd : xKd) (rf : xRf) (M : xM) (kd1 : xKd) (rf1 : xRf) (M1 : xM) : Prop := Old a kd rf M kd1 rf1 M1 ∧ kd1 a = some (.inl 3) ∧ rf1 a 0 = some (.ref (a + 1)) ∧ rf1 a 2 = some (.ref (a + 2)) ∧ (∀ k, k ≠ 0 ∧ k ≠ 2 → rf1 a k = none) ∧ IsCA kd1 rf1 (a + 1) 60 ∧ kd1 (a + 2) = some (.inr (3, 8)) ∧ (∀ j, j < i → rf1 (a + 2) j = some (.ref (a + 3 + j)) ∧ IsC kd1 rf1 (a + 3 + j)) ∧ ∀ k, M1 a k = 0
theorem TxP.s {a i : Nat} {kd kd1 : xKd} {rf rf1 : xRf} {M M1 : xM} (h : TxP a i kd rf M kd1 rf1 M1) : TxP a (i + 1) kd rf M (kn kd1 (a + 3 + i) (.inl 0)) (ru (rn rf1 (a + 3 + i) gz) (a + 2) i (.ref (a + 3 + i))) (mu (mu (ms M1 (a + 3 + i) z0) (a + 3 + i) 4 (-5)) (a + 3 + i) 8 (-5)) := by
  obtain ⟨hO, k0, r0, r2, r1, k1, k2, hs, hm⟩ := h
  have em : ∀ x, x ≠ a + 3 + i → mu (mu (ms M1 (a + 3 + i) z0) (a + 3 + i) 4 (-5)) (a + 3 + i) 8 (-5) x = M1 x := fun x hx => (ms_ne hx).trans ((ms_ne hx).trans (ms_ne hx))
  have er : ∀ x k, x ≠ a + 3 + i → x ≠ a + 2 → ru (rn rf1 (a + 3 + i) gz) (a + 2) i (.ref (a + 3 + i)) x k = rf1 x k := fun x k h1 h2 => (ru_ne (Or.inl h2)).trans (rn_ne h1)
  refine ⟨fun x h1 => ⟨(kn_ne (by omega)).trans (hO x h1).1, fun k => (er x k (by omega) (by omega)).trans ((hO x h1).2.1 k), (em x (by omega)).trans (hO x h1).2.2⟩, (kn_ne (by omega)).trans k0, (er a 0 (by omega) (by omega)).trans r0, (er a 2 (by omega) (by omega)).trans r2, fun k hk => (er a k (by omega) (by omega)).trans (r1 k hk), ⟨(kn_ne (by omega)).trans k1.1, fun k => (er _ k (by omega) (by omega)).trans (k1.2 k)⟩, (kn_ne (by omega)).trans k2, fun j hj => ?_, fun k => ?_⟩
  · by_cases e : j = i
    · subst e
      exact ⟨ru_same, kn_same, fun k => (ru_ne (Or.inl (by omega))).trans rn_same⟩
    · obtain ⟨g1, g2, g3⟩ := hs j (by omega)
      exact ⟨(ru_ne (Or.inr e)).trans ((rn_ne (by omega)).trans g1), (kn_ne (by omega)).trans g2, fun k => (er _ k (by omega) (by omega)).trans (g3 k)⟩
  · rw [em a (by omega)]
    exact hm k
set_option maxHeartbeats 1000000 in
set_option maxRecDepth 100000 in
theorem c_X2_init (l : Launch) (D : xD) (Bs : Nat) (a : Nat) (kd : xKd) (rf : xRf) (M : xM) (hk : kd a = some (.inl 2)) (hr : ∀ k, rf a k = gz2 k) (hM : ∀ k, M a k = 0) : Ctr l D Bs yX2_init cX2_init 2 none (rmc 3 126 1160) [.ref a] (a + 1) kd rf M 126 1160 (fun v sz' kd' rf' M' => v = none ∧ sz' = a + 127 ∧ ShH kd' rf' a ∧ (∀ k, M' a k = 0) ∧ Old a kd rf M kd' rf' M') := by
  refine Ctr.of (yi_X2_init.1.2.2.2.2) (List.forall_mem_cons.mpr ⟨rfl, fun _ h => absurd h List.not_mem_nil⟩) (Nat.le_of_ble_eq_true rfl) [some (.ref a), none] rfl ?_
  intro p e s m args below meth c X hin
  have hao := X.2.2.2.2.2.1.2.2
  have L14 : ∀ (k : Nat) (i : Nat) (kd1 : xKd) (rf1 : xRf) (M1 : xM), i + k = 5 → HsP a i kd rf M kd1 rf1 M1 → G p l e (rmc 3 126 1160) s m args below meth c D Bs 2 (1 + 25 * i) (5 + 231 * i) (MQ below (xQ D Bs (fun v sz' kd' rf' M' => v = none ∧ sz' = a + 127 ∧ ShH kd' rf' a ∧ (∀ k, M' a k = 0) ∧ Old a kd rf M kd' rf' M')) args s 126 1160 (fun q => Bs ≤ q)) (a + 2 + 25 * i) kd1 rf1 M1 14 [some (.ref a), some (vi (i : Int))] [] := by
    intro k
    induction k with
    | zero =>
      intro i kd1 rf1 M1 hik hP
      obtain rfl : i = 5 := by omega
      refine G.iload_n X 15 dX2_init_14 rfl rfl ?_
      refine G.iconst X 16 dX2_init_15 rfl ?_
      refine G.icmp_ge X 38 19 dX2_init_16 (by decide) rfl (by omega) (by omega) (fun hc16 => ?_) (fun hc16 => ?_)
      · obtain ⟨hO, k0, r0, r1, k1, hs, hm⟩ := hP
        exact G.vret X dX2_init_38 ⟨Nat.le_of_ble_eq_true rfl, Nat.le_of_ble_eq_true rfl⟩ ⟨rfl, rfl, ⟨k0, r0, r1, k1, hs⟩, hm, hO⟩
      · exfalso; omega
    | succ k ih =>
      intro i kd1 rf1 M1 hik hP
      obtain ⟨hO, k0, r0, r1, k1, hs, hm⟩ := id hP
      refine G.iload_n X 15 dX2_init_14 rfl rfl ?_
      refine G.iconst X 16 dX2_init_15 rfl ?_
      refine G.icmp_ge X 38 19 dX2_init_16 (by decide) rfl (by omega) (by omega) (fun hc16 => ?_) (fun hc16 => ?_)
      · exfalso; omega
      · refine G.aload_n X 20 dX2_init_19 rfl rfl ?_
        refine G.getR X fl_X2_11 23 dX2_init_20 rfl k0 r0 ?_
        refine G.iload_n X 24 dX2_init_23 rfl rfl ?_
        refine G.newo (ci := 4) (C := RX4) (T := TX4) (N := 11) X gz4 rfl cl_X2_9 inst4 ini_X4 tyX4_ok hgz4 27 dX2_init_24 rfl ⟨by show 1 + 25 * i + 1 ≤ 126; omega, by show 5 + 231 * i + 11 ≤ 1160; omega⟩ ?_
        refine G.dup X 28 dX2_init_27 rfl rfl ?_
        refine G.iC0 (d := 2) X ml_X2_17 yi_X4_init 31 dX2_init_28 rfl (c_X4_init l D Bs (a + 2 + 25 * i) _ _ _ kn_same (fun k => rn_same) (fun k => by rw [ms_same]; rfl)) (fun _ _ _ _ _ h => h.1) (by decide) ⟨by show 1 + 25 * i + 1 + 24 ≤ 126; omega, by show 5 + 231 * i + 11 + 220 ≤ 1160; omega⟩ (Nat.le_of_ble_eq_true rfl) (fun sz2 kd3 rf3 M3 h28 => ?_)
        obtain ⟨-, hz, hS, -, hx⟩ := h28
        have hx := hx.born
        refine G.astq X (t := 4) (i := i) (n := 5) (ci := 4) (C := RX4) (T := TX4) (N := 11) 32 dX2_init_31 rfl ((hx _ (by omega)).1.trans k1) (by decide) rfl hS.1 rfl rfl (by omega) (by decide) ?_
        refine G.iinc (ls' := [_, _]) X 35 dX2_init_32 rfl rfl (by decide) rfl ?_
        refine G.goto X 14 dX2_init_35 (by decide) ?_
        refine G.at (cells' := 1 + 25 * (i + 1)) (slots' := 5 + 231 * (i + 1)) (sz' := a + 2 + 25 * (i + 1)) (by omega) (by omega) (by omega) ?_
        exact ih (i + 1) _ _ _ (by omega) (hP.s hS hx)
  refine G.aload_n X 1 dX2_init_0 rfl rfl ?_
  refine G.objInit X ml_X2_3 4 dX2_init_1 rfl ⟨Nat.le_of_ble_eq_true rfl, Nat.le_of_ble_eq_true rfl⟩ ?_
  refine G.aload_n X 5 dX2_init_4 rfl rfl ?_
  refine G.iconst X 6 dX2_init_5 rfl ?_
  refine G.newq X (t := 4) (n := 5) rfl (by decide) hao.2.2 cl_X2_9 9 dX2_init_6 rfl rfl (by decide) ⟨Nat.le_of_ble_eq_true rfl, Nat.le_of_ble_eq_true rfl⟩ ?_
  refine G.putq (ci := 2) (C := RX2) (T := TX2) (N := 3) X (k := 0) (hin rfl) rfl (by decide) rfl rfl fk_X2_11 rfl (tyX2_ok 0 (by decide)) ⟨rfl, rfl⟩ 12 dX2_init_9 rfl ((kn_ne (by omega)).trans hk) ?_
  refine G.iconst X 13 dX2_init_12 rfl ?_
  refine G.istore_n (ls' := [_, _]) X 14 dX2_init_13 rfl (by decide) rfl ?_
  refine G.at (cells' := 1 + 25 * 0) (slots' := 5 + 231 * 0) (sz' := a + 2 + 25 * 0) rfl rfl (by omega) ?_
  refine L14 5 0 _ _ _ (by omega) ⟨fun x hx => ⟨kn_ne (by omega), fun k => (ru_ne (Or.inl (by omega))).trans (rn_ne (by omega)), ms_ne (by omega)⟩, (kn_ne (by omega)).trans hk, ru_same, fun k hk2 => ?_, kn_same, fun i hi => absurd hi (Nat.not_lt_zero i), fun k => ?_⟩
  · rw [ru_ne (Or.inr (by omega)), rn_ne (by omega), hr k]
    exact if_neg (by omega)
  · rw [ms_ne (by omega)]
    exact hM k
set_option maxHeartbeats 1000000 in
set_option maxRecDepth 100000 in
theorem c_X3_init (l : Launch) (D : xD) (Bs : Nat) (a : Nat) (kd : xKd) (rf : xRf) (M : xM) (hk : kd a = some (.inl 3)) (hr : ∀ k, rf a k = gz3 k) (hM : ∀ k, M a k = 0) : Ctr l D Bs yX3_init cX3_init 2 none (rmc 2 10 140) [.ref a] (a + 1) kd rf M 10 140 (fun v sz' kd' rf' M' => v = none ∧ sz' = a + 11 ∧ ShT kd' rf' a ∧ (∀ k, M' a k = 0) ∧ Old a kd rf M kd' rf' M') := by
  refine Ctr.of (yi_X3_init.1.2.2.2.2) (List.forall_mem_cons.mpr ⟨rfl, fun _ h => absurd h List.not_mem_nil⟩) (Nat.le_of_ble_eq_true rfl) [some (.ref a), none] rfl ?_
  intro p e s m args below meth c X hin
  have hao := X.2.2.2.2.2.1.2.2
  have L23 : ∀ (k : Nat) (i : Nat) (kd1 : xKd) (rf1 : xRf) (M1 : xM), i + k = 8 → TxP a i kd rf M kd1 rf1 M1 → G p l e (rmc 2 10 140) s m args below meth c D Bs 2 (2 + i) (68 + 9 * i) (MQ below (xQ D Bs (fun v sz' kd' rf' M' => v = none ∧ sz' = a + 11 ∧ ShT kd' rf' a ∧ (∀ k, M' a k = 0) ∧ Old a kd rf M kd' rf' M')) args s 10 140 (fun q => Bs ≤ q)) (a + 3 + i) kd1 rf1 M1 23 [some (.ref a), some (vi (i : Int))] [] := by
    intro k
    induction k with
    | zero =>
      intro i kd1 rf1 M1 hik hP
      obtain rfl : i = 8 := by omega
      refine G.iload_n X 24 dX3_init_23 rfl rfl ?_
      refine G.bipush X 26 dX3_init_24 rfl (by decide) ?_
      refine G.icmp_ge X 48 29 dX3_init_26 (by decide) rfl (by omega) (by omega) (fun hc26 => ?_) (fun hc26 => ?_)
      · obtain ⟨hO, k0, r0, r2, r1, k1, k2, hs, hm⟩ := hP
        exact G.vret X dX3_init_48 ⟨Nat.le_of_ble_eq_true rfl, Nat.le_of_ble_eq_true rfl⟩ ⟨rfl, rfl, ⟨k0, r0, r2, r1, k1, k2, hs⟩, hm, hO⟩
      · exfalso; omega
    | succ k ih =>
      intro i kd1 rf1 M1 hik hP
      obtain ⟨hO, k0, r0, r2, r1, k1, k2, hs, hm⟩ := id hP
      refine G.iload_n X 24 dX3_init_23 rfl rfl ?_
      refine G.bipush X 26 dX3_init_24 rfl (by decide) ?_
      refine G.icmp_ge X 48 29 dX3_init_26 (by decide) rfl (by omega) (by omega) (fun hc26 => ?_) (fun hc26 => ?_)
      · exfalso; omega
      · refine G.aload_n X 30 dX3_init_29 rfl rfl ?_
        refine G.getR X fl_X3_17 33 dX3_init_30 rfl k0 r2 ?_
        refine G.iload_n X 34 dX3_init_33 rfl rfl ?_
        refine G.newo (ci := 0) (C := RX0) (T := TX0) (N := 9) X gz rfl cl_X3_15 inst0 ini_X0 tyX0_ok hgz0 37 dX3_init_34 rfl ⟨by show 2 + i + 1 ≤ 10; omega, by show 68 + 9 * i + 9 ≤ 140; omega⟩ ?_
        refine G.dup X 38 dX3_init_37 rfl rfl ?_
        refine G.iV0 (d := 1) X ml_X3_21 yi_X0_init 41 dX3_init_38 rfl (c_X0_init l D Bs _ _ _ _ (a + 3 + i) ⟨kn_same, fun k => rn_same⟩) (by decide) ⟨by show 2 + i + 1 ≤ 10; omega, by show 68 + 9 * i + 9 ≤ 140; omega⟩ (Nat.le_of_ble_eq_true rfl) (fun M38 h38 => ?_)
        subst h38
        refine G.astq X (t := 3) (i := i) (n := 8) (ci := 0) (C := RX0) (T := TX0) (N := 9) 42 dX3_init_41 rfl ((kn_ne (by omega)).trans k2) (by decide) rfl kn_same rfl rfl (by omega) (by decide) ?_
        refine G.iinc (ls' := [_, _]) X 45 dX3_init_42 rfl rfl (by decide) rfl ?_
        refine G.goto X 23 dX3_init_45 (by decide) ?_
        refine G.at (cells' := 2 + (i + 1)) (slots' := 68 + 9 * (i + 1)) (sz' := a + 3 + (i + 1)) (by omega) (by omega) (by omega) ?_
        exact ih (i + 1) _ _ _ (by omega) hP.s
  refine G.aload_n X 1 dX3_init_0 rfl rfl ?_
  refine G.objInit X ml_X3_3 4 dX3_init_1 rfl ⟨Nat.le_of_ble_eq_true rfl, Nat.le_of_ble_eq_true rfl⟩ ?_
  refine G.aload_n X 5 dX3_init_4 rfl rfl ?_
  refine G.bipush X 7 dX3_init_5 rfl (by decide) ?_
  refine G.newi X (t := 1) (n := 60) rfl (Or.inr rfl) ac_char 9 dX3_init_7 rfl rfl (by decide) ⟨Nat.le_of_ble_eq_true rfl, Nat.le_of_ble_eq_true rfl⟩ ?_
  refine G.putq (ci := 3) (C := RX3) (T := TX3) (N := 5) X (k := 0) (hin rfl) rfl (by decide) rfl rfl fk_X3_9 rfl (tyX3_ok 0 (by decide)) ⟨rfl, rfl⟩ 12 dX3_init_9 rfl ((kn_ne (by omega)).trans hk) ?_
  refine G.aload_n X 13 dX3_init_12 rfl rfl ?_
  refine G.bipush X 15 dX3_init_13 rfl (by decide) ?_
  refine G.newq X (t := 3) (n := 8) rfl (by decide) hao.2.1 cl_X3_15 18 dX3_init_15 rfl rfl (by decide) ⟨Nat.le_of_ble_eq_true rfl, Nat.le_of_ble_eq_true rfl⟩ ?_
  refine G.putq (ci := 3) (C := RX3) (T := TX3) (N := 5) X (k := 2) (hin rfl) rfl (by decide) rfl rfl fk_X3_17 rfl (tyX3_ok 2 (by decide)) ⟨rfl, rfl⟩ 21 dX3_init_18 rfl ((kn_ne (by omega)).trans ((kn_ne (by omega)).trans hk)) ?_
  refine G.iconst X 22 dX3_init_21 rfl ?_
  refine G.istore_n (ls' := [_, _]) X 23 dX3_init_22 rfl (by decide) rfl ?_
  refine G.at (cells' := 2 + 0) (slots' := 68 + 9 * 0) (sz' := a + 3 + 0) rfl rfl (by omega) ?_
  refine L23 8 0 _ _ _ (by omega) ⟨fun x hx => ⟨(kn_ne (by omega)).trans (kn_ne (by omega)), fun k => (ru_ne (Or.inl (by omega))).trans ((rn_ne (by omega)).trans ((ru_ne (Or.inl (by omega))).trans (rn_ne (by omega)))), (ms_ne (by omega)).trans (ms_ne (by omega))⟩, (kn_ne (by omega)).trans ((kn_ne (by omega)).trans hk), (ru_ne (Or.inr (by decide))).trans ((rn_ne (by omega)).trans ru_same), ru_same, fun k hk2 => ?_, ⟨(kn_ne (by omega)).trans kn_same, fun k => (ru_ne (Or.inl (by omega))).trans ((rn_ne (by omega)).trans ((ru_ne (Or.inl (by omega))).trans rn_same))⟩, kn_same, fun i hi => absurd hi (Nat.not_lt_zero i), fun k => ?_⟩
  · rw [ru_ne (Or.inr (by omega)), rn_ne (by omega), ru_ne (Or.inr (by omega)), rn_ne (by omega), hr k]
    exact if_neg (by omega)
  · rw [ms_ne (by omega), ms_ne (by omega)]
    exact hM k
