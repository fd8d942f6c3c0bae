theorem ShH.old {kd kd' : xKd} {rf rf' : xRf} {a : Nat} (h : ShH kd rf a) (hk : ∀ x, a ≤ x → x < a + 127 → kd' x = kd x ∧ ∀ k, rf' x k = rf x k) : ShH kd' rf' a := by
  obtain ⟨k0, r0, r1, k1, hs⟩ := h
  refine ⟨(hk a (by omega) (by omega)).1.trans k0, ((hk a (by omega) (by omega)).2 0).trans r0, fun k h => ((hk a (by omega) (by omega)).2 k).trans (r1 k h), (hk _ (by omega) (by omega)).1.trans k1, fun i hi => ?_⟩
  obtain ⟨g1, g2⟩ := hs i hi
  exact ⟨((hk _ (by omega) (by omega)).2 i).trans g1, g2.old (fun x h1 h2 => hk x (by omega) (by omega))⟩
theorem ShT.old {kd kd' : xKd} {rf rf' : xRf} {a : Nat} (h : ShT kd rf a) (hk : ∀ x, a ≤ x → x < a + 11 → kd' x = kd x ∧ ∀ k, rf' x k = rf x k) : ShT kd' rf' a := by
  obtain ⟨k0, r0, r2, r1, k1, k2, hs⟩ := h
  refine ⟨(hk a (by omega) (by omega)).1.trans k0, ((hk a (by omega) (by omega)).2 0).trans r0, ((hk a (by omega) (by omega)).2 2).trans r2, fun k h => ((hk a (by omega) (by omega)).2 k).trans (r1 k h), ⟨(hk _ (by omega) (by omega)).1.trans k1.1, fun k => ((hk _ (by omega) (by omega)).2 k).trans (k1.2 k)⟩, (hk _ (by omega) (by omega)).1.trans k2, fun i hi => ?_⟩
  obtain ⟨g1, g2, g3⟩ := hs i hi
  exact ⟨((hk _ (by omega) (by omega)).2 i).trans g1, (hk _ (by omega) (by omega)).1.trans g2, fun k => ((hk _ (by omega) (by omega)).2 k).trans (g3 k)⟩
set_option maxHeartbeats 1000000 in
set_option maxRecDepth 100000 in
theorem c_X5_init (l : Launch) (D : xD) (Bs : Nat) (a : Nat) (kd : xKd) (rf : xRf) (M : xM) (hk : kd a = some (.inl 5)) (hr : ∀ k, rf a k = gz5 k) (hM : ∀ k, M a k = 0) : Ctr l D Bs yX5_init cX5_init 1 none (rmc 4 214 2013) [.ref a] (a + 1) kd rf M 214 2013 (fun v sz' kd' rf' M' => v = none ∧ sz' = a + 215 ∧ ShX kd' rf' a ∧ CSt M' a rowI [] none [] ∧ Old a kd rf M kd' rf' M') := by
  refine Ctr.of (yi_X5_init.1.2.2.2.2) (List.forall_mem_cons.mpr ⟨rfl, fun _ h => absurd h List.not_mem_nil⟩) (Nat.le_of_ble_eq_true rfl) [some (.ref a)] rfl ?_
  intro p e s m args below meth c X hin
  refine G.aload_n X 1 dX5_init_0 rfl rfl ?_
  refine G.objInit X ml_X5_1 4 dX5_init_1 rfl ⟨Nat.le_of_ble_eq_true rfl, Nat.le_of_ble_eq_true rfl⟩ ?_
  refine G.aload_n X 5 dX5_init_4 rfl rfl ?_
  refine G.at (cells' := 0) (slots' := 0) (sz' := a + 1) (by rfl) (by rfl) (by omega) ?_
  refine G.newo (ci := 4) (C := RX4) (T := TX4) (N := 11) X gz4 rfl cl_X5_7 inst4 ini_X4 tyX4_ok hgz4 8 dX5_init_5 rfl ⟨Nat.le_of_ble_eq_true rfl, Nat.le_of_ble_eq_true rfl⟩ ?_
  refine G.dup X 9 dX5_init_8 rfl rfl ?_
  refine G.iC0 (d := 2) X ml_X5_9 yi_X4_init 12 dX5_init_9 rfl (c_X4_init l D Bs (a + 1) _ _ _ kn_same (fun k => rn_same) (fun k => by rw [ms_same]; rfl)) (fun _ _ _ _ _ h => h.1) (by decide) ⟨Nat.le_of_ble_eq_true rfl, Nat.le_of_ble_eq_true rfl⟩ (Nat.le_of_ble_eq_true rfl) (fun sz1 kd1 rf1 M1 h1 => ?_)
  obtain ⟨-, hz1, S1, m1, O1⟩ := h1
  have O1 := O1.born
  subst hz1
  refine G.putq (ci := 5) (C := RX5) (T := TX5) (N := 7) X (k := 0) (hin rfl) rfl (by decide) rfl rfl fk_X5_10 rfl (tyX5_ok 0 (by decide)) ⟨rfl, rfl⟩ 15 dX5_init_12 rfl ((O1 a (by omega)).1.trans hk) ?_
  refine G.aload_n X 16 dX5_init_15 rfl rfl ?_
  refine G.at (cells' := 25) (slots' := 231) (sz' := a + 26) (by rfl) (by rfl) (by omega) ?_
  refine G.newo (ci := 4) (C := RX4) (T := TX4) (N := 11) X gz4 rfl cl_X5_7 inst4 ini_X4 tyX4_ok hgz4 19 dX5_init_16 rfl ⟨Nat.le_of_ble_eq_true rfl, Nat.le_of_ble_eq_true rfl⟩ ?_
  refine G.dup X 20 dX5_init_19 rfl rfl ?_
  refine G.iC0 (d := 2) X ml_X5_9 yi_X4_init 23 dX5_init_20 rfl (c_X4_init l D Bs (a + 26) _ _ _ kn_same (fun k => rn_same) (fun k => by rw [ms_same]; rfl)) (fun _ _ _ _ _ h => h.1) (by decide) ⟨Nat.le_of_ble_eq_true rfl, Nat.le_of_ble_eq_true rfl⟩ (Nat.le_of_ble_eq_true rfl) (fun sz2 kd2 rf2 M2 h2 => ?_)
  obtain ⟨-, hz2, S2, m2, O2⟩ := h2
  have O2 := O2.born
  subst hz2
  refine G.putq (ci := 5) (C := RX5) (T := TX5) (N := 7) X (k := 1) (hin rfl) rfl (by decide) rfl rfl fk_X5_16 rfl (tyX5_ok 1 (by decide)) ⟨rfl, rfl⟩ 26 dX5_init_23 rfl ((O2 a (by omega)).1.trans ((O1 a (by omega)).1.trans hk)) ?_
  refine G.aload_n X 27 dX5_init_26 rfl rfl ?_
  refine G.at (cells' := 50) (slots' := 462) (sz' := a + 51) (by rfl) (by rfl) (by omega) ?_
  refine G.newo (ci := 4) (C := RX4) (T := TX4) (N := 11) X gz4 rfl cl_X5_7 inst4 ini_X4 tyX4_ok hgz4 30 dX5_init_27 rfl ⟨Nat.le_of_ble_eq_true rfl, Nat.le_of_ble_eq_true rfl⟩ ?_
  refine G.dup X 31 dX5_init_30 rfl rfl ?_
  refine G.iC0 (d := 2) X ml_X5_9 yi_X4_init 34 dX5_init_31 rfl (c_X4_init l D Bs (a + 51) _ _ _ kn_same (fun k => rn_same) (fun k => by rw [ms_same]; rfl)) (fun _ _ _ _ _ h => h.1) (by decide) ⟨Nat.le_of_ble_eq_true rfl, Nat.le_of_ble_eq_true rfl⟩ (Nat.le_of_ble_eq_true rfl) (fun sz3 kd3 rf3 M3 h3 => ?_)
  obtain ⟨-, hz3, S3, m3, O3⟩ := h3
  have O3 := O3.born
  subst hz3
  refine G.putq (ci := 5) (C := RX5) (T := TX5) (N := 7) X (k := 2) (hin rfl) rfl (by decide) rfl rfl fk_X5_19 rfl (tyX5_ok 2 (by decide)) ⟨rfl, rfl⟩ 37 dX5_init_34 rfl ((O3 a (by omega)).1.trans ((O2 a (by omega)).1.trans ((O1 a (by omega)).1.trans hk))) ?_
  refine G.aload_n X 38 dX5_init_37 rfl rfl ?_
  refine G.iconst X 39 dX5_init_38 rfl ?_
  refine G.putZ X fl_X5_22 fi_5_3 42 dX5_init_39 rfl ((O3 a (by omega)).1.trans ((O2 a (by omega)).1.trans ((O1 a (by omega)).1.trans hk))) ((ru_ne (Or.inr (by decide))).trans (((O3 a (by omega)).2.1 3).trans ((ru_ne (Or.inr (by decide))).trans (((O2 a (by omega)).2.1 3).trans ((ru_ne (Or.inr (by decide))).trans (((O1 a (by omega)).2.1 3).trans ((hr 3)))))))) (Or.inl rfl) ?_
  refine G.aload_n X 43 dX5_init_42 rfl rfl ?_
  refine G.at (cells' := 75) (slots' := 693) (sz' := a + 76) (by rfl) (by rfl) (by omega) ?_
  refine G.newo (ci := 2) (C := RX2) (T := TX2) (N := 3) X gz2 rfl cl_X5_26 inst2 ini_X2 tyX2_ok hgz2 46 dX5_init_43 rfl ⟨Nat.le_of_ble_eq_true rfl, Nat.le_of_ble_eq_true rfl⟩ ?_
  refine G.dup X 47 dX5_init_46 rfl rfl ?_
  refine G.iC0 (d := 3) X ml_X5_28 yi_X2_init 50 dX5_init_47 rfl (c_X2_init l D Bs (a + 76) _ _ _ kn_same (fun k => rn_same) (fun k => by rw [ms_same]; rfl)) (fun _ _ _ _ _ h => h.1) (by decide) ⟨Nat.le_of_ble_eq_true rfl, Nat.le_of_ble_eq_true rfl⟩ (Nat.le_of_ble_eq_true rfl) (fun sz4 kd4 rf4 M4 h4 => ?_)
  obtain ⟨-, hz4, S4, m4, O4⟩ := h4
  have O4 := O4.born
  subst hz4
  refine G.putq (ci := 5) (C := RX5) (T := TX5) (N := 7) X (k := 4) (hin rfl) rfl (by decide) rfl rfl fk_X5_29 rfl (tyX5_ok 4 (by decide)) ⟨rfl, rfl⟩ 53 dX5_init_50 rfl ((O4 a (by omega)).1.trans ((O3 a (by omega)).1.trans ((O2 a (by omega)).1.trans ((O1 a (by omega)).1.trans hk)))) ?_
  refine G.aload_n X 54 dX5_init_53 rfl rfl ?_
  refine G.at (cells' := 202) (slots' := 1856) (sz' := a + 203) (by rfl) (by rfl) (by omega) ?_
  refine G.newo (ci := 3) (C := RX3) (T := TX3) (N := 5) X gz3 rfl cl_X5_33 inst3 ini_X3 tyX3_ok hgz3 57 dX5_init_54 rfl ⟨Nat.le_of_ble_eq_true rfl, Nat.le_of_ble_eq_true rfl⟩ ?_
  refine G.dup X 58 dX5_init_57 rfl rfl ?_
  refine G.iC0 (d := 2) X ml_X5_35 yi_X3_init 61 dX5_init_58 rfl (c_X3_init l D Bs (a + 203) _ _ _ kn_same (fun k => rn_same) (fun k => by rw [ms_same]; rfl)) (fun _ _ _ _ _ h => h.1) (by decide) ⟨Nat.le_of_ble_eq_true rfl, Nat.le_of_ble_eq_true rfl⟩ (Nat.le_of_ble_eq_true rfl) (fun sz5 kd5 rf5 M5 h5 => ?_)
  obtain ⟨-, hz5, S5, m5, O5⟩ := h5
  have O5 := O5.born
  subst hz5
  refine G.putq (ci := 5) (C := RX5) (T := TX5) (N := 7) X (k := 5) (hin rfl) rfl (by decide) rfl rfl fk_X5_36 rfl (tyX5_ok 5 (by decide)) ⟨rfl, rfl⟩ 64 dX5_init_61 rfl ((O5 a (by omega)).1.trans ((O4 a (by omega)).1.trans ((O3 a (by omega)).1.trans ((O2 a (by omega)).1.trans ((O1 a (by omega)).1.trans hk))))) ?_
  refine G.aload_n X 65 dX5_init_64 rfl rfl ?_
  refine G.bipush X 67 dX5_init_65 rfl (by decide) ?_
  refine G.at (cells' := 213) (slots' := 2001) (sz' := a + 214) (by rfl) (by rfl) (by omega) ?_
  refine G.newi X (t := 0) (n := 12) rfl (Or.inl rfl) ac_int 69 dX5_init_67 rfl rfl (by decide) ⟨Nat.le_of_ble_eq_true rfl, Nat.le_of_ble_eq_true rfl⟩ ?_
  refine G.putq (ci := 5) (C := RX5) (T := TX5) (N := 7) X (k := 6) (hin rfl) rfl (by decide) rfl rfl fk_X5_40 rfl (tyX5_ok 6 (by decide)) ⟨rfl, rfl⟩ 72 dX5_init_69 rfl ((kn_ne (by omega)).trans ((O5 a (by omega)).1.trans ((O4 a (by omega)).1.trans ((O3 a (by omega)).1.trans ((O2 a (by omega)).1.trans ((O1 a (by omega)).1.trans hk)))))) ?_
  have K1 : ∀ x, a < x → x < a + 26 → kn kd5 (a + 214) (.inr (0, 12)) x = kd1 x ∧ (∀ k, ru (rn (ru rf5 a 5 (.ref (a + 203))) (a + 214) (fun _ => none)) a 6 (.ref (a + 214)) x k = rf1 x k) ∧ ms M5 (a + 214) z0 x = M1 x := fun x hx1 hx2 => ⟨(kn_ne (by omega)).trans ((O5 x (by omega)).1.trans ((O4 x (by omega)).1.trans ((O3 x (by omega)).1.trans ((O2 x (by omega)).1)))), fun k => (ru_ne (Or.inl (by omega))).trans ((rn_ne (by omega)).trans ((ru_ne (Or.inl (by omega))).trans (((O5 x (by omega)).2.1 k).trans ((ru_ne (Or.inl (by omega))).trans (((O4 x (by omega)).2.1 k).trans ((ru_ne (Or.inl (by omega))).trans (((O3 x (by omega)).2.1 k).trans ((ru_ne (Or.inl (by omega))).trans (((O2 x (by omega)).2.1 k).trans ((ru_ne (Or.inl (by omega))))))))))))), (ms_ne (by omega)).trans ((O5 x (by omega)).2.2.trans ((O4 x (by omega)).2.2.trans ((ms_ne (by omega)).trans ((O3 x (by omega)).2.2.trans ((O2 x (by omega)).2.2)))))⟩
  have K2 : ∀ x, a < x → x < a + 51 → kn kd5 (a + 214) (.inr (0, 12)) x = kd2 x ∧ (∀ k, ru (rn (ru rf5 a 5 (.ref (a + 203))) (a + 214) (fun _ => none)) a 6 (.ref (a + 214)) x k = rf2 x k) ∧ ms M5 (a + 214) z0 x = M2 x := fun x hx1 hx2 => ⟨(kn_ne (by omega)).trans ((O5 x (by omega)).1.trans ((O4 x (by omega)).1.trans ((O3 x (by omega)).1))), fun k => (ru_ne (Or.inl (by omega))).trans ((rn_ne (by omega)).trans ((ru_ne (Or.inl (by omega))).trans (((O5 x (by omega)).2.1 k).trans ((ru_ne (Or.inl (by omega))).trans (((O4 x (by omega)).2.1 k).trans ((ru_ne (Or.inl (by omega))).trans (((O3 x (by omega)).2.1 k).trans ((ru_ne (Or.inl (by omega))))))))))), (ms_ne (by omega)).trans ((O5 x (by omega)).2.2.trans ((O4 x (by omega)).2.2.trans ((ms_ne (by omega)).trans ((O3 x (by omega)).2.2))))⟩
  have K3 : ∀ x, a < x → x < a + 76 → kn kd5 (a + 214) (.inr (0, 12)) x = kd3 x ∧ (∀ k, ru (rn (ru rf5 a 5 (.ref (a + 203))) (a + 214) (fun _ => none)) a 6 (.ref (a + 214)) x k = rf3 x k) ∧ ms M5 (a + 214) z0 x = M3 x := fun x hx1 hx2 => ⟨(kn_ne (by omega)).trans ((O5 x (by omega)).1.trans ((O4 x (by omega)).1)), fun k => (ru_ne (Or.inl (by omega))).trans ((rn_ne (by omega)).trans ((ru_ne (Or.inl (by omega))).trans (((O5 x (by omega)).2.1 k).trans ((ru_ne (Or.inl (by omega))).trans (((O4 x (by omega)).2.1 k).trans ((ru_ne (Or.inl (by omega))))))))), (ms_ne (by omega)).trans ((O5 x (by omega)).2.2.trans ((O4 x (by omega)).2.2.trans ((ms_ne (by omega)))))⟩
  have K4 : ∀ x, a < x → x < a + 203 → kn kd5 (a + 214) (.inr (0, 12)) x = kd4 x ∧ (∀ k, ru (rn (ru rf5 a 5 (.ref (a + 203))) (a + 214) (fun _ => none)) a 6 (.ref (a + 214)) x k = rf4 x k) ∧ ms M5 (a + 214) z0 x = M4 x := fun x hx1 hx2 => ⟨(kn_ne (by omega)).trans ((O5 x (by omega)).1), fun k => (ru_ne (Or.inl (by omega))).trans ((rn_ne (by omega)).trans ((ru_ne (Or.inl (by omega))).trans (((O5 x (by omega)).2.1 k).trans ((ru_ne (Or.inl (by omega))))))), (ms_ne (by omega)).trans ((O5 x (by omega)).2.2)⟩
  have K5 : ∀ x, a < x → x < a + 214 → kn kd5 (a + 214) (.inr (0, 12)) x = kd5 x ∧ (∀ k, ru (rn (ru rf5 a 5 (.ref (a + 203))) (a + 214) (fun _ => none)) a 6 (.ref (a + 214)) x k = rf5 x k) ∧ ms M5 (a + 214) z0 x = M5 x := fun x hx1 hx2 => ⟨(kn_ne (by omega)), fun k => (ru_ne (Or.inl (by omega))).trans ((rn_ne (by omega)).trans ((ru_ne (Or.inl (by omega))))), (ms_ne (by omega))⟩
  have KM : ∀ k, k ≠ 3 → ms M5 (a + 214) z0 a k = 0 := fun k hk3 => (congrFun (ms_ne (by omega)) k).trans ((congrFun (O5 a (by omega)).2.2 k).trans ((congrFun (O4 a (by omega)).2.2 k).trans ((mu_ne (Or.inr hk3)).trans ((congrFun (O3 a (by omega)).2.2 k).trans ((congrFun (O2 a (by omega)).2.2 k).trans ((congrFun (O1 a (by omega)).2.2 k).trans (hM k)))))))
  have KM3 : ms M5 (a + 214) z0 a 3 = 0 := (congrFun (ms_ne (by omega)) 3).trans ((congrFun (O5 a (by omega)).2.2 3).trans ((congrFun (O4 a (by omega)).2.2 3).trans mu_same))
  refine G.vret X dX5_init_72 ⟨Nat.le_of_ble_eq_true rfl, Nat.le_of_ble_eq_true rfl⟩ ⟨rfl, rfl, ⟨(kn_ne (by omega)).trans ((O5 a (by omega)).1.trans ((O4 a (by omega)).1.trans ((O3 a (by omega)).1.trans ((O2 a (by omega)).1.trans ((O1 a (by omega)).1.trans hk))))), (ru_ne (Or.inr (by decide))).trans ((rn_ne (by omega)).trans ((ru_ne (Or.inr (by decide))).trans (((O5 a (by omega)).2.1 _).trans ((ru_ne (Or.inr (by decide))).trans (((O4 a (by omega)).2.1 _).trans ((ru_ne (Or.inr (by decide))).trans (((O3 a (by omega)).2.1 _).trans ((ru_ne (Or.inr (by decide))).trans (((O2 a (by omega)).2.1 _).trans ((ru_ne (Or.inr (by decide))).trans (((O1 a (by omega)).2.1 _).trans ((hr 3))))))))))))), ⟨(ru_ne (Or.inr (by decide))).trans ((rn_ne (by omega)).trans ((ru_ne (Or.inr (by decide))).trans (((O5 a (by omega)).2.1 _).trans ((ru_ne (Or.inr (by decide))).trans (((O4 a (by omega)).2.1 _).trans ((ru_ne (Or.inr (by decide))).trans (((O3 a (by omega)).2.1 _).trans ((ru_ne (Or.inr (by decide))).trans (((O2 a (by omega)).2.1 _).trans (ru_same)))))))))), S1.old (fun x h1 h2 => ⟨(K1 x (by omega) (by omega)).1, (K1 x (by omega) (by omega)).2.1⟩)⟩, ⟨(ru_ne (Or.inr (by decide))).trans ((rn_ne (by omega)).trans ((ru_ne (Or.inr (by decide))).trans (((O5 a (by omega)).2.1 _).trans ((ru_ne (Or.inr (by decide))).trans (((O4 a (by omega)).2.1 _).trans ((ru_ne (Or.inr (by decide))).trans (((O3 a (by omega)).2.1 _).trans (ru_same)))))))), S2.old (fun x h1 h2 => ⟨(K2 x (by omega) (by omega)).1, (K2 x (by omega) (by omega)).2.1⟩)⟩, ⟨(ru_ne (Or.inr (by decide))).trans ((rn_ne (by omega)).trans ((ru_ne (Or.inr (by decide))).trans (((O5 a (by omega)).2.1 _).trans ((ru_ne (Or.inr (by decide))).trans (((O4 a (by omega)).2.1 _).trans (ru_same)))))), S3.old (fun x h1 h2 => ⟨(K3 x (by omega) (by omega)).1, (K3 x (by omega) (by omega)).2.1⟩)⟩, ⟨(ru_ne (Or.inr (by decide))).trans ((rn_ne (by omega)).trans ((ru_ne (Or.inr (by decide))).trans (((O5 a (by omega)).2.1 _).trans (ru_same)))), S4.old (fun x h1 h2 => ⟨(K4 x (by omega) (by omega)).1, (K4 x (by omega) (by omega)).2.1⟩)⟩, ⟨(ru_ne (Or.inr (by decide))).trans ((rn_ne (by omega)).trans (ru_same)), S5.old (fun x h1 h2 => ⟨(K5 x (by omega) (by omega)).1, (K5 x (by omega) (by omega)).2.1⟩)⟩, ru_same, kn_same, fun k => (ru_ne (Or.inl (by omega))).trans rn_same⟩, ⟨St.init ?_, ⟨0, ⟨by decide, ?_, ?_, by decide⟩, fun j q hj => by simp at hj⟩, KM3, (fun q hq => by cases hq), ⟨?_, by decide⟩, fun j hj => absurd hj (Nat.not_lt_zero j)⟩, fun x hx => ⟨(kn_ne (by omega)).trans ((O5 x (by omega)).1.trans ((O4 x (by omega)).1.trans ((O3 x (by omega)).1.trans ((O2 x (by omega)).1.trans ((O1 x (by omega)).1))))), fun k => (ru_ne (Or.inl (by omega))).trans ((rn_ne (by omega)).trans ((ru_ne (Or.inl (by omega))).trans (((O5 x (by omega)).2.1 k).trans ((ru_ne (Or.inl (by omega))).trans (((O4 x (by omega)).2.1 k).trans ((ru_ne (Or.inl (by omega))).trans (((O3 x (by omega)).2.1 k).trans ((ru_ne (Or.inl (by omega))).trans (((O2 x (by omega)).2.1 k).trans ((ru_ne (Or.inl (by omega))).trans (((O1 x (by omega)).2.1 k)))))))))))), (ms_ne (by omega)).trans ((O5 x (by omega)).2.2.trans ((O4 x (by omega)).2.2.trans ((ms_ne (by omega)).trans ((O3 x (by omega)).2.2.trans ((O2 x (by omega)).2.2.trans ((O1 x (by omega)).2.2))))))⟩⟩
  · rw [(K1 (a + 1) (by omega) (by omega)).2.2]
    exact m1
  · rw [(K4 (a + 76) (by omega) (by omega)).2.2]
    exact m4 1
  · rw [(K4 (a + 76) (by omega) (by omega)).2.2]
    exact m4 2
  · rw [(K5 (a + 203) (by omega) (by omega)).2.2]
    exact m5 1
