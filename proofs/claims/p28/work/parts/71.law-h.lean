/-- the classes as the tables have them -/
theorem law_K {s : State} {args : Array Value} (hts : ∀ w ∈ lw_tbl, w.before args s = true) : ∃ D : xD, xK D s := by
  have hg : ∀ w ∈ gw, w.before args s = true := fun w h => hts w (gw_in h)
  obtain ⟨c0, i0, K0⟩ := u_known (C := RX0) (T := TX0) (N := 9) (n := 9) hg laid0 (hg _ inst0)
  obtain ⟨c1, i1, K1⟩ := u_known (C := RX1) (T := TX1) (N := 9) (n := 9) hg laid1 (hg _ inst1)
  obtain ⟨c2, i2, K2⟩ := u_known (C := RX2) (T := TX2) (N := 3) (n := 3) hg laid2 (hg _ inst2)
  obtain ⟨c3, i3, K3⟩ := u_known (C := RX3) (T := TX3) (N := 5) (n := 5) hg laid3 (hg _ inst3)
  obtain ⟨c4, i4, K4⟩ := u_known (C := RX4) (T := TX4) (N := 11) (n := 11) hg laid4 (hg _ inst4)
  obtain ⟨c5, i5, K5⟩ := u_known (C := RX5) (T := TX5) (N := 7) (n := 7) hg laid5 (hg _ inst5)
  obtain ⟨a0, k0, d0, f0, g0, h0⟩ := Cond.arrayClass_spec (hg _ ac_int)
  obtain ⟨a1, k1, d1, f1, g1, h1⟩ := Cond.arrayClass_spec (hg _ ac_char)
  obtain ⟨d2, a2, k2, e2, -, g2, h2, f2⟩ := Cond.arrayOver_spec (hts _ ao_X1)
  obtain ⟨d3, a3, k3, e3, -, g3, h3, f3⟩ := Cond.arrayOver_spec (hts _ ao_X0)
  obtain ⟨d4, a4, k4, e4, -, g4, h4, f4⟩ := Cond.arrayOver_spec (hts _ ao_X4)
  refine ⟨((fun k => match k with | 0 => c0 | 1 => c1 | 2 => c2 | 3 => c3 | 4 => c4 | _ => c5, fun k => match k with | 0 => i0 | 1 => i1 | 2 => i2 | 3 => i3 | 4 => i4 | _ => i5), fun k => match k with | 0 => a0 | 1 => a1 | 2 => a2 | 3 => a3 | _ => a4), ⟨?_, ?_⟩, fun w hw => va_tabs (nw_tab hw) rfl (hts w (nw_in hw)), va_AO.of (hts _ ao_X1), va_AO.of (hts _ ao_X0), va_AO.of (hts _ ao_X4)⟩
  · intro k q hq
    match k, hq with
    | 0, hq => cases hq; exact K0
    | 1, hq => cases hq; exact K1
    | 2, hq => cases hq; exact K2
    | 3, hq => cases hq; exact K3
    | 4, hq => cases hq; exact K4
    | 5, hq => cases hq; exact K5
    | n + 6, hq => simp [vwCl] at hq
  · intro k q hq
    match k, hq with
    | 0, hq => cases hq; exact ⟨fun n z => ⟨fun j h => (by cases h), k0, g0, d0, h0⟩, f0⟩
    | 1, hq => cases hq; exact ⟨fun n z => ⟨fun j h => (by cases h), k1, g1, d1, h1⟩, f1⟩
    | 2, hq => cases hq; exact ⟨fun n z => ⟨fun j h => (by cases h), k2, g2, d2, h2⟩, k2, d2, g2, h2, e2, f2⟩
    | 3, hq => cases hq; exact ⟨fun n z => ⟨fun j h => (by cases h), k3, g3, d3, h3⟩, k3, d3, g3, h3, e3, f3⟩
    | 4, hq => cases hq; exact ⟨fun n z => ⟨fun j h => (by cases h), k4, g4, d4, h4⟩, k4, d4, g4, h4, e4, f4⟩
    | n + 5, hq => simp [xT] at hq
set_option maxHeartbeats 1000000 in
/-- THE LAW, from its entry -/
theorem whole_start {p : Program} {e : Env} {s : State} {m : MethodId} {below : List Frame} {meth : Method} {c : Code} (l : Launch) (hflags : l.flags = flags0) {b L : Nat} {xs : Nat → Int32} (hL : L ≤ 260) (C0 : lw_At p s m meth c b L xs) : W p l e room_1 s m #[Value.ref b] below meth c s.heap [] 0 0 (lw_Z below #[Value.ref b] s) (entryFrame m ([Value.ref b] : List Value).toArray 11) := by
  obtain ⟨hx, hb, hr, hml, hown, hts, hxs, hbl, hlocks, hgv⟩ := C0
  obtain ⟨D, hK⟩ := law_K hts
  have X : Cx p s m meth c #[Value.ref b] code 11 RL ret D := ⟨hx, hb, hml, hown, fun w h => hts w (gw_in h), hK, hr, hlocks⟩
  have hl := lv_entry ([.ref b]) (n := 11) (Nat.le_of_ble_eq_true rfl)
  rw [lg_entry_eq]
  have hg : G p l e room_1 s m #[Value.ref b] below meth c D s.heap.size 11 0 0 (lw_Z below #[Value.ref b] s) s.heap.size (fun _ => none) (fun _ _ => none) (fun _ _ => 0) 0 [some (.ref b), none, none, none, none, none, none, none, none, none, none] [] := by
    refine G.newo (ci := 5) (C := RX5) (T := TX5) (N := 7) X gz5 rfl cl_L_14 inst5 ini_X5 tyX5_ok hgz5 3 dL_law_0 rfl ⟨Nat.le_of_ble_eq_true rfl, Nat.le_of_ble_eq_true rfl⟩ ?_
    refine G.dup X 4 dL_law_3 rfl rfl ?_
    refine G.iC0 (d := 4) X ml_L_100 yi_X5_init 7 dL_law_4 rfl (c_X5_init l D s.heap.size s.heap.size _ _ _ kn_same (fun k => rn_same) (fun k => by rw [ms_same]; rfl)) (fun _ _ _ _ _ h => h.1) (by decide) ⟨Nat.le_of_ble_eq_true rfl, Nat.le_of_ble_eq_true rfl⟩ (Nat.le_of_ble_eq_true rfl) (fun sz1 kd1 rf1 M1 h1 => ?_)
    obtain ⟨-, hz1, S1, C1, -⟩ := h1
    subst hz1
    refine G.astore_n (ls' := [_, _, _, _, _, _, _, _, _, _, _]) X 8 dL_law_7 rfl (by decide) rfl ?_
    refine G.at (cells' := 215) (slots' := 2020) (sz' := s.heap.size + 215) (by rfl) (by rfl) rfl ?_
    exact law_8 X hxs hbl hL ⟨S1, Iw.init, C1⟩
  refine hg s.heap [] _ ⟨rfl, Nat.le_refl _, fun a k h => (by cases h), fun a ci k h => (by cases h), fun a n j h => (by cases h)⟩ va_S.rf ⟨?_, trivial⟩
  exact hl
