def rowI : xR := fu (fu z0 1 5) 2 10
theorem St.init {M : xM} {b : Nat} (h : M b 0 = 0 ∧ M b 1 = 5 ∧ M b 2 = 10 ∧ ∀ k, 3 ≤ k → k < 9 → M b k = 0) : St M b rowI := by
  obtain ⟨h0, h1, h2, hz⟩ := h
  refine ⟨⟨h0, h1, h2, hz 3 (by decide) (by decide), hz 4 (by decide) (by decide), hz 5 (by decide) (by decide), hz 6 (by decide) (by decide), hz 7 (by decide) (by decide), hz 8 (by decide) (by decide)⟩, fun i hi => ?_, fun i hi => ?_⟩
  · have e : nS rowI = 0 := rfl
    omega
  · have e : nC rowI = 0 := rfl
    omega
theorem Vr.init : Vr rowI := by
  refine ⟨⟨⟨?_, ?_, ?_, ?_, ?_, ?_⟩, fun i hi => ?_, fun i hi => ?_⟩, rfl, rfl, rfl⟩
  · exact ⟨Int.le_refl 0, show (0 : Int) ≤ 999 by decide⟩
  · exact ⟨show (-30 : Int) ≤ 5 by decide, show (5 : Int) ≤ 20 by decide⟩
  · exact ⟨show (1 : Int) ≤ 10 by decide, show (10 : Int) ≤ 99 by decide⟩
  · exact ⟨Int.le_refl 0, show (0 : Int) ≤ 50000 by decide⟩
  · exact ⟨Int.le_refl 0, show (0 : Int) ≤ 10 by decide⟩
  · exact ⟨Int.le_refl 0, show (0 : Int) ≤ 12 by decide⟩
  · have e : nS rowI = 0 := rfl
    omega
  · have e : nC rowI = 0 := rfl
    omega
set_option maxHeartbeats 1000000 in
set_option maxRecDepth 100000 in
theorem c_X6_init (l : Launch) (D : xD) (Bs : Nat) (y : Nat) (kd : xKd) (rf : xRf) (M : xM) (hk : kd y = some (.inl 6)) (hr : ∀ k, rf y k = gz6 k) (hM : ∀ k, M y k = 0) : Ctr l D Bs yX6_init cX6_init 1 none (rmc 1 7 1996) [.ref y] (y + 1) kd rf M 7 1996 (fun v sz' kd' rf' M' => v = none ∧ sz' = y + 8 ∧ ShY kd' rf' y ∧ MSt M' y rowI [] none [] ∧ Old y kd rf M kd' rf' M') := by
  refine Ctr.of (yi_X6_init.1.2.2.2.2) (List.forall_mem_cons.mpr ⟨rfl, fun _ h => absurd h List.not_mem_nil⟩) (Nat.le_of_ble_eq_true rfl) [some (.ref y)] rfl ?_
  intro p e s m args below meth c X hin
  refine G.aload_n X 1 dX6_init_0 rfl rfl ?_
  refine G.objInit X ml_X6_1 4 dX6_init_1 rfl ⟨Nat.le_of_ble_eq_true rfl, Nat.le_of_ble_eq_true rfl⟩ ?_
  refine G.aload_n X 5 dX6_init_4 rfl rfl ?_
  refine G.sipush X 8 dX6_init_5 rfl (by decide) ?_
  refine G.newi X (t := 0) (n := 236) rfl (Or.inl rfl) ac_int 10 dX6_init_8 rfl rfl (by decide) ⟨Nat.le_of_ble_eq_true rfl, Nat.le_of_ble_eq_true rfl⟩ ?_
  refine G.putq (ci := 6) (C := RX6) (T := TX6) (N := 12) X (k := 0) (hin rfl) rfl (by decide) rfl rfl fk_X6_7 rfl (tyX6_ok 0 (by decide)) ⟨rfl, rfl⟩ 13 dX6_init_10 rfl ((kn_ne (by omega)).trans hk) ?_
  refine G.aload_n X 14 dX6_init_13 rfl rfl ?_
  refine G.sipush X 17 dX6_init_14 rfl (by decide) ?_
  refine G.newi X (t := 0) (n := 1180) rfl (Or.inl rfl) ac_int 19 dX6_init_17 rfl rfl (by decide) ⟨Nat.le_of_ble_eq_true rfl, Nat.le_of_ble_eq_true rfl⟩ ?_
  refine G.putq (ci := 6) (C := RX6) (T := TX6) (N := 12) X (k := 1) (hin rfl) rfl (by decide) rfl rfl fk_X6_13 rfl (tyX6_ok 1 (by decide)) ⟨rfl, rfl⟩ 22 dX6_init_19 rfl ((kn_ne (by omega)).trans ((kn_ne (by omega)).trans hk)) ?_
  refine G.aload_n X 23 dX6_init_22 rfl rfl ?_
  refine G.sipush X 26 dX6_init_23 rfl (by decide) ?_
  refine G.newi X (t := 0) (n := 236) rfl (Or.inl rfl) ac_int 28 dX6_init_26 rfl rfl (by decide) ⟨Nat.le_of_ble_eq_true rfl, Nat.le_of_ble_eq_true rfl⟩ ?_
  refine G.putq (ci := 6) (C := RX6) (T := TX6) (N := 12) X (k := 3) (hin rfl) rfl (by decide) rfl rfl fk_X6_16 rfl (tyX6_ok 3 (by decide)) ⟨rfl, rfl⟩ 31 dX6_init_28 rfl ((kn_ne (by omega)).trans ((kn_ne (by omega)).trans ((kn_ne (by omega)).trans hk))) ?_
  refine G.aload_n X 32 dX6_init_31 rfl rfl ?_
  refine G.sipush X 35 dX6_init_32 rfl (by decide) ?_
  refine G.newi X (t := 0) (n := 236) rfl (Or.inl rfl) ac_int 37 dX6_init_35 rfl rfl (by decide) ⟨Nat.le_of_ble_eq_true rfl, Nat.le_of_ble_eq_true rfl⟩ ?_
  refine G.putq (ci := 6) (C := RX6) (T := TX6) (N := 12) X (k := 5) (hin rfl) rfl (by decide) rfl rfl fk_X6_19 rfl (tyX6_ok 5 (by decide)) ⟨rfl, rfl⟩ 40 dX6_init_37 rfl ((kn_ne (by omega)).trans ((kn_ne (by omega)).trans ((kn_ne (by omega)).trans ((kn_ne (by omega)).trans hk)))) ?_
  refine G.aload_n X 41 dX6_init_40 rfl rfl ?_
  refine G.bipush X 43 dX6_init_41 rfl (by decide) ?_
  refine G.newi X (t := 0) (n := 12) rfl (Or.inl rfl) ac_int 45 dX6_init_43 rfl rfl (by decide) ⟨Nat.le_of_ble_eq_true rfl, Nat.le_of_ble_eq_true rfl⟩ ?_
  refine G.putq (ci := 6) (C := RX6) (T := TX6) (N := 12) X (k := 6) (hin rfl) rfl (by decide) rfl rfl fk_X6_22 rfl (tyX6_ok 6 (by decide)) ⟨rfl, rfl⟩ 48 dX6_init_45 rfl ((kn_ne (by omega)).trans ((kn_ne (by omega)).trans ((kn_ne (by omega)).trans ((kn_ne (by omega)).trans ((kn_ne (by omega)).trans hk))))) ?_
  refine G.aload_n X 49 dX6_init_48 rfl rfl ?_
  refine G.bipush X 51 dX6_init_49 rfl (by decide) ?_
  refine G.newi X (t := 1) (n := 60) rfl (Or.inr rfl) ac_char 53 dX6_init_51 rfl rfl (by decide) ⟨Nat.le_of_ble_eq_true rfl, Nat.le_of_ble_eq_true rfl⟩ ?_
  refine G.putq (ci := 6) (C := RX6) (T := TX6) (N := 12) X (k := 8) (hin rfl) rfl (by decide) rfl rfl fk_X6_25 rfl (tyX6_ok 8 (by decide)) ⟨rfl, rfl⟩ 56 dX6_init_53 rfl ((kn_ne (by omega)).trans ((kn_ne (by omega)).trans ((kn_ne (by omega)).trans ((kn_ne (by omega)).trans ((kn_ne (by omega)).trans ((kn_ne (by omega)).trans hk)))))) ?_
  refine G.aload_n X 57 dX6_init_56 rfl rfl ?_
  refine G.bipush X 59 dX6_init_57 rfl (by decide) ?_
  refine G.newi X (t := 0) (n := 36) rfl (Or.inl rfl) ac_int 61 dX6_init_59 rfl rfl (by decide) ⟨Nat.le_of_ble_eq_true rfl, Nat.le_of_ble_eq_true rfl⟩ ?_
  refine G.putq (ci := 6) (C := RX6) (T := TX6) (N := 12) X (k := 11) (hin rfl) rfl (by decide) rfl rfl fk_X6_29 rfl (tyX6_ok 11 (by decide)) ⟨rfl, rfl⟩ 64 dX6_init_61 rfl ((kn_ne (by omega)).trans ((kn_ne (by omega)).trans ((kn_ne (by omega)).trans ((kn_ne (by omega)).trans ((kn_ne (by omega)).trans ((kn_ne (by omega)).trans ((kn_ne (by omega)).trans hk))))))) ?_
  refine G.aload_n X 65 dX6_init_64 rfl rfl ?_
  refine G.getR X fl_X6_7 68 dX6_init_65 rfl ((kn_ne (by omega)).trans ((kn_ne (by omega)).trans ((kn_ne (by omega)).trans ((kn_ne (by omega)).trans ((kn_ne (by omega)).trans ((kn_ne (by omega)).trans ((kn_ne (by omega)).trans (hk)))))))) ((ru_ne (Or.inr (by decide))).trans ((rn_ne (by omega)).trans ((ru_ne (Or.inr (by decide))).trans ((rn_ne (by omega)).trans ((ru_ne (Or.inr (by decide))).trans ((rn_ne (by omega)).trans ((ru_ne (Or.inr (by decide))).trans ((rn_ne (by omega)).trans ((ru_ne (Or.inr (by decide))).trans ((rn_ne (by omega)).trans ((ru_ne (Or.inr (by decide))).trans ((rn_ne (by omega)).trans (ru_same))))))))))))) ?_
  refine G.iconst X 69 dX6_init_68 rfl ?_
  refine G.iconst X 70 dX6_init_69 rfl ?_
  refine G.iast X (i := 1) 71 dX6_init_70 rfl ((kn_ne (by omega)).trans ((kn_ne (by omega)).trans ((kn_ne (by omega)).trans ((kn_ne (by omega)).trans ((kn_ne (by omega)).trans ((kn_ne (by omega)).trans (kn_same))))))) ((ru_ne (Or.inl (by omega))).trans ((rn_ne (by omega)).trans ((ru_ne (Or.inl (by omega))).trans ((rn_ne (by omega)).trans ((ru_ne (Or.inl (by omega))).trans ((rn_ne (by omega)).trans ((ru_ne (Or.inl (by omega))).trans ((rn_ne (by omega)).trans ((ru_ne (Or.inl (by omega))).trans ((rn_ne (by omega)).trans ((ru_ne (Or.inl (by omega))).trans ((rn_ne (by omega)).trans ((ru_ne (Or.inl (by omega))).trans (rn_same)))))))))))))) rfl (by decide) (by decide) ?_
  refine G.aload_n X 72 dX6_init_71 rfl rfl ?_
  refine G.getR X fl_X6_7 75 dX6_init_72 rfl ((kn_ne (by omega)).trans ((kn_ne (by omega)).trans ((kn_ne (by omega)).trans ((kn_ne (by omega)).trans ((kn_ne (by omega)).trans ((kn_ne (by omega)).trans ((kn_ne (by omega)).trans (hk)))))))) ((ru_ne (Or.inr (by decide))).trans ((rn_ne (by omega)).trans ((ru_ne (Or.inr (by decide))).trans ((rn_ne (by omega)).trans ((ru_ne (Or.inr (by decide))).trans ((rn_ne (by omega)).trans ((ru_ne (Or.inr (by decide))).trans ((rn_ne (by omega)).trans ((ru_ne (Or.inr (by decide))).trans ((rn_ne (by omega)).trans ((ru_ne (Or.inr (by decide))).trans ((rn_ne (by omega)).trans (ru_same))))))))))))) ?_
  refine G.iconst X 76 dX6_init_75 rfl ?_
  refine G.bipush X 78 dX6_init_76 rfl (by decide) ?_
  refine G.iast X (i := 2) 79 dX6_init_78 rfl ((kn_ne (by omega)).trans ((kn_ne (by omega)).trans ((kn_ne (by omega)).trans ((kn_ne (by omega)).trans ((kn_ne (by omega)).trans ((kn_ne (by omega)).trans (kn_same))))))) ((ru_ne (Or.inl (by omega))).trans ((rn_ne (by omega)).trans ((ru_ne (Or.inl (by omega))).trans ((rn_ne (by omega)).trans ((ru_ne (Or.inl (by omega))).trans ((rn_ne (by omega)).trans ((ru_ne (Or.inl (by omega))).trans ((rn_ne (by omega)).trans ((ru_ne (Or.inl (by omega))).trans ((rn_ne (by omega)).trans ((ru_ne (Or.inl (by omega))).trans ((rn_ne (by omega)).trans ((ru_ne (Or.inl (by omega))).trans (rn_same)))))))))))))) rfl (by decide) (by decide) ?_
  have hY0 : ∀ x, x ≠ y + 1 → mu (mu (ms (ms (ms (ms (ms (ms (ms M (y + 1) z0) (y + 1 + 1) z0) (y + 1 + 1 + 1) z0) (y + 1 + 1 + 1 + 1) z0) (y + 1 + 1 + 1 + 1 + 1) z0) (y + 1 + 1 + 1 + 1 + 1 + 1) z0) (y + 1 + 1 + 1 + 1 + 1 + 1 + 1) z0) (y + 1) 1 5) (y + 1) 2 10 x = ms (ms (ms (ms (ms (ms (ms M (y + 1) z0) (y + 1 + 1) z0) (y + 1 + 1 + 1) z0) (y + 1 + 1 + 1 + 1) z0) (y + 1 + 1 + 1 + 1 + 1) z0) (y + 1 + 1 + 1 + 1 + 1 + 1) z0) (y + 1 + 1 + 1 + 1 + 1 + 1 + 1) z0 x := fun x hx => (ms_ne hx).trans (ms_ne hx)
  have hYo : ∀ x, x ≤ y → ms (ms (ms (ms (ms (ms (ms M (y + 1) z0) (y + 1 + 1) z0) (y + 1 + 1 + 1) z0) (y + 1 + 1 + 1 + 1) z0) (y + 1 + 1 + 1 + 1 + 1) z0) (y + 1 + 1 + 1 + 1 + 1 + 1) z0) (y + 1 + 1 + 1 + 1 + 1 + 1 + 1) z0 x = M x := fun x hx => (ms_ne (by omega)).trans ((ms_ne (by omega)).trans ((ms_ne (by omega)).trans ((ms_ne (by omega)).trans ((ms_ne (by omega)).trans ((ms_ne (by omega)).trans (ms_ne (by omega)))))))
  refine G.vret X dX6_init_79 ⟨Nat.le_of_ble_eq_true rfl, Nat.le_of_ble_eq_true rfl⟩ ⟨rfl, rfl, ⟨(kn_ne (by omega)).trans ((kn_ne (by omega)).trans ((kn_ne (by omega)).trans ((kn_ne (by omega)).trans ((kn_ne (by omega)).trans ((kn_ne (by omega)).trans ((kn_ne (by omega)).trans (hk))))))), fun k hk2 => ?_, ⟨(ru_ne (Or.inr (by decide))).trans ((rn_ne (by omega)).trans ((ru_ne (Or.inr (by decide))).trans ((rn_ne (by omega)).trans ((ru_ne (Or.inr (by decide))).trans ((rn_ne (by omega)).trans ((ru_ne (Or.inr (by decide))).trans ((rn_ne (by omega)).trans ((ru_ne (Or.inr (by decide))).trans ((rn_ne (by omega)).trans ((ru_ne (Or.inr (by decide))).trans ((rn_ne (by omega)).trans (ru_same)))))))))))), ⟨(kn_ne (by omega)).trans ((kn_ne (by omega)).trans ((kn_ne (by omega)).trans ((kn_ne (by omega)).trans ((kn_ne (by omega)).trans ((kn_ne (by omega)).trans (kn_same)))))), fun k => (ru_ne (Or.inl (by omega))).trans ((rn_ne (by omega)).trans ((ru_ne (Or.inl (by omega))).trans ((rn_ne (by omega)).trans ((ru_ne (Or.inl (by omega))).trans ((rn_ne (by omega)).trans ((ru_ne (Or.inl (by omega))).trans ((rn_ne (by omega)).trans ((ru_ne (Or.inl (by omega))).trans ((rn_ne (by omega)).trans ((ru_ne (Or.inl (by omega))).trans ((rn_ne (by omega)).trans ((ru_ne (Or.inl (by omega))).trans (rn_same)))))))))))))⟩⟩, ⟨(ru_ne (Or.inr (by decide))).trans ((rn_ne (by omega)).trans ((ru_ne (Or.inr (by decide))).trans ((rn_ne (by omega)).trans ((ru_ne (Or.inr (by decide))).trans ((rn_ne (by omega)).trans ((ru_ne (Or.inr (by decide))).trans ((rn_ne (by omega)).trans ((ru_ne (Or.inr (by decide))).trans ((rn_ne (by omega)).trans (ru_same)))))))))), ⟨(kn_ne (by omega)).trans ((kn_ne (by omega)).trans ((kn_ne (by omega)).trans ((kn_ne (by omega)).trans ((kn_ne (by omega)).trans (kn_same))))), fun k => (ru_ne (Or.inl (by omega))).trans ((rn_ne (by omega)).trans ((ru_ne (Or.inl (by omega))).trans ((rn_ne (by omega)).trans ((ru_ne (Or.inl (by omega))).trans ((rn_ne (by omega)).trans ((ru_ne (Or.inl (by omega))).trans ((rn_ne (by omega)).trans ((ru_ne (Or.inl (by omega))).trans ((rn_ne (by omega)).trans ((ru_ne (Or.inl (by omega))).trans (rn_same)))))))))))⟩⟩, ⟨(ru_ne (Or.inr (by decide))).trans ((rn_ne (by omega)).trans ((ru_ne (Or.inr (by decide))).trans ((rn_ne (by omega)).trans ((ru_ne (Or.inr (by decide))).trans ((rn_ne (by omega)).trans ((ru_ne (Or.inr (by decide))).trans ((rn_ne (by omega)).trans (ru_same)))))))), ⟨(kn_ne (by omega)).trans ((kn_ne (by omega)).trans ((kn_ne (by omega)).trans ((kn_ne (by omega)).trans (kn_same)))), fun k => (ru_ne (Or.inl (by omega))).trans ((rn_ne (by omega)).trans ((ru_ne (Or.inl (by omega))).trans ((rn_ne (by omega)).trans ((ru_ne (Or.inl (by omega))).trans ((rn_ne (by omega)).trans ((ru_ne (Or.inl (by omega))).trans ((rn_ne (by omega)).trans ((ru_ne (Or.inl (by omega))).trans (rn_same)))))))))⟩⟩, ⟨(ru_ne (Or.inr (by decide))).trans ((rn_ne (by omega)).trans ((ru_ne (Or.inr (by decide))).trans ((rn_ne (by omega)).trans ((ru_ne (Or.inr (by decide))).trans ((rn_ne (by omega)).trans (ru_same)))))), ⟨(kn_ne (by omega)).trans ((kn_ne (by omega)).trans ((kn_ne (by omega)).trans (kn_same))), fun k => (ru_ne (Or.inl (by omega))).trans ((rn_ne (by omega)).trans ((ru_ne (Or.inl (by omega))).trans ((rn_ne (by omega)).trans ((ru_ne (Or.inl (by omega))).trans ((rn_ne (by omega)).trans ((ru_ne (Or.inl (by omega))).trans (rn_same)))))))⟩⟩, ⟨(ru_ne (Or.inr (by decide))).trans ((rn_ne (by omega)).trans ((ru_ne (Or.inr (by decide))).trans ((rn_ne (by omega)).trans (ru_same)))), ⟨(kn_ne (by omega)).trans ((kn_ne (by omega)).trans (kn_same)), fun k => (ru_ne (Or.inl (by omega))).trans ((rn_ne (by omega)).trans ((ru_ne (Or.inl (by omega))).trans ((rn_ne (by omega)).trans ((ru_ne (Or.inl (by omega))).trans (rn_same)))))⟩⟩, ⟨ru_same, ⟨kn_same, fun k => (ru_ne (Or.inl (by omega))).trans (rn_same)⟩⟩, ⟨(ru_ne (Or.inr (by decide))).trans ((rn_ne (by omega)).trans (ru_same)), ⟨(kn_ne (by omega)).trans (kn_same), fun k => (ru_ne (Or.inl (by omega))).trans ((rn_ne (by omega)).trans ((ru_ne (Or.inl (by omega))).trans (rn_same)))⟩⟩⟩, ⟨?_, ⟨?_, by decide, fun j q hj => by simp at hj⟩, ?_, (fun q hq => by cases hq), ⟨?_, by decide⟩, fun j hj => absurd hj (Nat.not_lt_zero j)⟩, fun x hx => ⟨(kn_ne (by omega)).trans ((kn_ne (by omega)).trans ((kn_ne (by omega)).trans ((kn_ne (by omega)).trans ((kn_ne (by omega)).trans ((kn_ne (by omega)).trans (kn_ne (by omega))))))), fun k => (ru_ne (Or.inl (by omega))).trans ((rn_ne (by omega)).trans ((ru_ne (Or.inl (by omega))).trans ((rn_ne (by omega)).trans ((ru_ne (Or.inl (by omega))).trans ((rn_ne (by omega)).trans ((ru_ne (Or.inl (by omega))).trans ((rn_ne (by omega)).trans ((ru_ne (Or.inl (by omega))).trans ((rn_ne (by omega)).trans ((ru_ne (Or.inl (by omega))).trans ((rn_ne (by omega)).trans ((ru_ne (Or.inl (by omega))).trans ((rn_ne (by omega))))))))))))))), (hY0 x (by omega)).trans (hYo x (by omega))⟩⟩
  · have e : gz6 k = none := if_pos (by omega)
    rw [← e, ← hr k]
    exact (ru_ne (Or.inr (by omega))).trans ((rn_ne (by omega)).trans ((ru_ne (Or.inr (by omega))).trans ((rn_ne (by omega)).trans ((ru_ne (Or.inr (by omega))).trans ((rn_ne (by omega)).trans ((ru_ne (Or.inr (by omega))).trans ((rn_ne (by omega)).trans ((ru_ne (Or.inr (by omega))).trans ((rn_ne (by omega)).trans ((ru_ne (Or.inr (by omega))).trans ((rn_ne (by omega)).trans ((ru_ne (Or.inr (by omega))).trans ((rn_ne (by omega)))))))))))))))
  · funext z
    show mu (mu _ (y + 1) 1 5) (y + 1) 2 10 (y + 1) z = rowI z
    unfold rowI mu
    rw [ms_same, ms_same, ms_ne (by omega), ms_ne (by omega), ms_ne (by omega), ms_ne (by omega), ms_ne (by omega), ms_ne (by omega), ms_same]
  · rw [hY0 y (by omega), hYo y (by omega)]
    exact hM 2
  · rw [hY0 y (by omega), hYo y (by omega)]
    exact hM 4
  · rw [hY0 y (by omega), hYo y (by omega)]
    exact hM 7
