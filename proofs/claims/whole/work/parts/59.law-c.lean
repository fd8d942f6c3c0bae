set_option maxHeartbeats 1000000 in
theorem law_loop {p : Program} {l : Launch} {e : Env} {s : State} {m : MethodId} {b : Nat} {below : List Frame} {meth : Method} {c : Code} {D : xD} {L : Nat} {xs : Nat → Int32} (X : Cx p s m meth c #[Value.ref b] code 4 RL ret D) (hxs : va_X b L xs s s.heap) (hbl : b < s.heap.size) (hL : L ≤ 2560) {a y sz : Nat} {kd : xKd} {rf : xRf} : ∀ (k i : Nat) (M : xM) (r : xR) (h : List xR) (sn : Option xR) (t : List Int), L + 1 ≤ i + k → i ≤ L → LI a y kd rf M r h sn t → LG p l e s m b below meth c D a y sz kd rf i M 18 := by
  intro k
  induction k with
  | zero =>
    intro i M r h sn t h1 h2
    exact absurd h1 (by omega)
  | succ k ih =>
    intro i M r h sn t hk hil hI
    have next : i + 5 ≤ L → ∀ (M' : xM) (r' : xR) (h' : List xR) (sn' : Option xR) (t' : List Int), LI a y kd rf M' r' h' sn' t' → LG p l e s m b below meth c D a y sz kd rf i M' 745 := by
      intro hi M' r' h' sn' t' hI'
      refine G.iinc (ls' := [_, _, _, _]) X 748 dL_law_745 rfl rfl (by decide) rfl ?_
      refine G.goto X 18 dL_law_748 (by decide) ?_
      exact ih (i + 5) M' r' h' sn' t' (by omega) (by omega) hI'
    refine G.iload_n X 19 dL_law_18 rfl rfl ?_
    refine G.aload_n X 20 dL_law_19 rfl rfl ?_
    refine G.slen X hxs hbl (Nat.le_refl _) 21 dL_law_20 rfl ?_
    refine G.iconst X 22 dL_law_21 rfl ?_
    refine G.isub X 23 dL_law_22 rfl ?_
    refine G.icmp_gt X 751 26 dL_law_23 (by decide) rfl (by omega) (by omega) (fun hc => ?_) (fun hc => ?_)
    · exact LG.done X
    · have hi : i + 5 ≤ L := by omega
      refine G.aload_n X 27 dL_law_26 rfl rfl ?_
      refine G.iload_n X 28 dL_law_27 rfl rfl ?_
      refine G.sld (i := i) X hxs hbl (Nat.le_refl _) 29 dL_law_28 rfl rfl (by omega) hL ?_
      refine G.bipush X 31 dL_law_29 rfl (by decide) ?_
      refine G.and31 X 32 dL_law_31 rfl (ir_x _) ?_
      obtain ⟨v, hv⟩ : ∃ v, (xs i).toInt % 32 = v := ⟨_, rfl⟩
      have hvr : 0 ≤ v ∧ v < 32 := by omega
      rw [hv]
      by_cases hsw : v ≤ 24
      · have hsw2 : v = 0 ∨ v = 1 ∨ v = 2 ∨ v = 3 ∨ v = 4 ∨ v = 5 ∨ v = 6 ∨ v = 7 ∨ v = 8 ∨ v = 9 ∨ v = 10 ∨ v = 11 ∨ v = 12 ∨ v = 13 ∨ v = 14 ∨ v = 15 ∨ v = 16 ∨ v = 17 ∨ v = 18 ∨ v = 19 ∨ v = 20 ∨ v = 21 ∨ v = 22 ∨ v = 23 ∨ v = 24 := by omega
        rcases hsw2 with e1 | e1 | e1 | e1 | e1 | e1 | e1 | e1 | e1 | e1 | e1 | e1 | e1 | e1 | e1 | e1 | e1 | e1 | e1 | e1 | e1 | e1 | e1 | e1 | e1
        · rw [e1]
          refine G.tableIn X 148 dL_law_32 (by decide) (by decide) (by decide) (by rfl) (by decide) ?_
          exact lc_0 X hxs hbl hL hi hI (next hi)
        · rw [e1]
          refine G.tableIn X 171 dL_law_32 (by decide) (by decide) (by decide) (by rfl) (by decide) ?_
          exact lc_1 X hxs hbl hL hi hI (next hi)
        · rw [e1]
          refine G.tableIn X 194 dL_law_32 (by decide) (by decide) (by decide) (by rfl) (by decide) ?_
          exact lc_2 X hxs hbl hL hi hI (next hi)
        · rw [e1]
          refine G.tableIn X 217 dL_law_32 (by decide) (by decide) (by decide) (by rfl) (by decide) ?_
          exact lc_3 X hxs hbl hL hi hI (next hi)
        · rw [e1]
          refine G.tableIn X 270 dL_law_32 (by decide) (by decide) (by decide) (by rfl) (by decide) ?_
          exact lc_4 X hxs hbl hL hi hI (next hi)
        · rw [e1]
          refine G.tableIn X 293 dL_law_32 (by decide) (by decide) (by decide) (by rfl) (by decide) ?_
          exact lc_5 X hxs hbl hL hi hI (next hi)
        · rw [e1]
          refine G.tableIn X 346 dL_law_32 (by decide) (by decide) (by decide) (by rfl) (by decide) ?_
          exact lc_6 X hxs hbl hL hi hI (next hi)
        · rw [e1]
          refine G.tableIn X 379 dL_law_32 (by decide) (by decide) (by decide) (by rfl) (by decide) ?_
          exact lc_7 X hxs hbl hL hi hI (next hi)
        · rw [e1]
          refine G.tableIn X 402 dL_law_32 (by decide) (by decide) (by decide) (by rfl) (by decide) ?_
          exact lc_8 X hxs hbl hL hi hI (next hi)
        · rw [e1]
          refine G.tableIn X 415 dL_law_32 (by decide) (by decide) (by decide) (by rfl) (by decide) ?_
          exact lc_9 X hxs hbl hL hi hI (next hi)
        · rw [e1]
          refine G.tableIn X 428 dL_law_32 (by decide) (by decide) (by decide) (by rfl) (by decide) ?_
          exact lc_10 X hxs hbl hL hi hI (next hi)
        · rw [e1]
          refine G.tableIn X 441 dL_law_32 (by decide) (by decide) (by decide) (by rfl) (by decide) ?_
          exact lc_11 X hxs hbl hL hi hI (next hi)
        · rw [e1]
          refine G.tableIn X 464 dL_law_32 (by decide) (by decide) (by decide) (by rfl) (by decide) ?_
          exact lc_12 X hxs hbl hL hi hI (next hi)
        · rw [e1]
          refine G.tableIn X 489 dL_law_32 (by decide) (by decide) (by decide) (by rfl) (by decide) ?_
          exact lc_13 X hxs hbl hL hi hI (next hi)
        · rw [e1]
          refine G.tableIn X 502 dL_law_32 (by decide) (by decide) (by decide) (by rfl) (by decide) ?_
          exact lc_14 X hxs hbl hL hi hI (next hi)
        · rw [e1]
          refine G.tableIn X 515 dL_law_32 (by decide) (by decide) (by decide) (by rfl) (by decide) ?_
          exact lc_15 X hxs hbl hL hi hI (next hi)
        · rw [e1]
          refine G.tableIn X 528 dL_law_32 (by decide) (by decide) (by decide) (by rfl) (by decide) ?_
          exact lc_16 X hxs hbl hL hi hI (next hi)
        · rw [e1]
          refine G.tableIn X 541 dL_law_32 (by decide) (by decide) (by decide) (by rfl) (by decide) ?_
          exact lc_17 X hxs hbl hL hi hI (next hi)
        · rw [e1]
          refine G.tableIn X 554 dL_law_32 (by decide) (by decide) (by decide) (by rfl) (by decide) ?_
          exact lc_18 X hxs hbl hL hi hI (next hi)
        · rw [e1]
          refine G.tableIn X 587 dL_law_32 (by decide) (by decide) (by decide) (by rfl) (by decide) ?_
          exact lc_19 X hxs hbl hL hi hI (next hi)
        · rw [e1]
          refine G.tableIn X 620 dL_law_32 (by decide) (by decide) (by decide) (by rfl) (by decide) ?_
          exact lc_20 X hxs hbl hL hi hI (next hi)
        · rw [e1]
          refine G.tableIn X 643 dL_law_32 (by decide) (by decide) (by decide) (by rfl) (by decide) ?_
          exact lc_21 X hxs hbl hL hi hI (next hi)
        · rw [e1]
          refine G.tableIn X 666 dL_law_32 (by decide) (by decide) (by decide) (by rfl) (by decide) ?_
          exact lc_22 X hxs hbl hL hi hI (next hi)
        · rw [e1]
          refine G.tableIn X 689 dL_law_32 (by decide) (by decide) (by decide) (by rfl) (by decide) ?_
          exact lc_23 X hxs hbl hL hi hI (next hi)
        · rw [e1]
          refine G.tableIn X 722 dL_law_32 (by decide) (by decide) (by decide) (by rfl) (by decide) ?_
          exact lc_24 X hxs hbl hL hi hI (next hi)
      · refine G.tableOut X 745 dL_law_32 (by omega) (by omega) (by decide) ?_
        exact next hi M r h sn t hI
/-- the classes as the tables have them -/
theorem law_K {s : State} {args : Array Value} (hts : ∀ w ∈ lw_tbl, w.before args s = true) : ∃ D : xD, xK D s := by
  have hg : ∀ w ∈ gw, w.before args s = true := fun w h => hts w (gw_in h)
  obtain ⟨c0, i0, K0⟩ := u_known (C := RX0) (T := TX0) (N := 9) (n := 9) hg laid0 (hg _ inst0)
  obtain ⟨c1, i1, K1⟩ := u_known (C := RX1) (T := TX1) (N := 9) (n := 9) hg laid1 (hg _ inst1)
  obtain ⟨c2, i2, K2⟩ := u_known (C := RX2) (T := TX2) (N := 3) (n := 3) hg laid2 (hg _ inst2)
  obtain ⟨c3, i3, K3⟩ := u_known (C := RX3) (T := TX3) (N := 5) (n := 5) hg laid3 (hg _ inst3)
  obtain ⟨c4, i4, K4⟩ := u_known (C := RX4) (T := TX4) (N := 11) (n := 11) hg laid4 (hg _ inst4)
  obtain ⟨c5, i5, K5⟩ := u_known (C := RX5) (T := TX5) (N := 7) (n := 7) hg laid5 (hg _ inst5)
  obtain ⟨c6, i6, K6⟩ := u_known (C := RX6) (T := TX6) (N := 12) (n := 12) hg laid6 (hg _ inst6)
  obtain ⟨a0, k0, d0, f0, g0, h0⟩ := Cond.arrayClass_spec (hg _ ac_int)
  obtain ⟨a1, k1, d1, f1, g1, h1⟩ := Cond.arrayClass_spec (hg _ ac_char)
  obtain ⟨d2, a2, k2, e2, -, g2, h2, f2⟩ := Cond.arrayOver_spec (hts _ ao_X1)
  obtain ⟨d3, a3, k3, e3, -, g3, h3, f3⟩ := Cond.arrayOver_spec (hts _ ao_X0)
  obtain ⟨d4, a4, k4, e4, -, g4, h4, f4⟩ := Cond.arrayOver_spec (hts _ ao_X4)
  refine ⟨((fun k => match k with | 0 => c0 | 1 => c1 | 2 => c2 | 3 => c3 | 4 => c4 | 5 => c5 | _ => c6, fun k => match k with | 0 => i0 | 1 => i1 | 2 => i2 | 3 => i3 | 4 => i4 | 5 => i5 | _ => i6), fun k => match k with | 0 => a0 | 1 => a1 | 2 => a2 | 3 => a3 | _ => a4), ⟨?_, ?_⟩, fun w hw => va_tabs (nw_tab hw) rfl (hts w (nw_in hw)), va_AO.of (hts _ ao_X1), va_AO.of (hts _ ao_X0), va_AO.of (hts _ ao_X4)⟩
  · intro k q hq
    match k, hq with
    | 0, hq => cases hq; exact K0
    | 1, hq => cases hq; exact K1
    | 2, hq => cases hq; exact K2
    | 3, hq => cases hq; exact K3
    | 4, hq => cases hq; exact K4
    | 5, hq => cases hq; exact K5
    | 6, hq => cases hq; exact K6
    | n + 7, hq => simp [vwCl] at hq
  · intro k q hq
    match k, hq with
    | 0, hq => cases hq; exact ⟨fun n z => ⟨fun j h => (by cases h), k0, g0, d0, h0⟩, f0⟩
    | 1, hq => cases hq; exact ⟨fun n z => ⟨fun j h => (by cases h), k1, g1, d1, h1⟩, f1⟩
    | 2, hq => cases hq; exact ⟨fun n z => ⟨fun j h => (by cases h), k2, g2, d2, h2⟩, k2, d2, g2, h2, e2, f2⟩
    | 3, hq => cases hq; exact ⟨fun n z => ⟨fun j h => (by cases h), k3, g3, d3, h3⟩, k3, d3, g3, h3, e3, f3⟩
    | 4, hq => cases hq; exact ⟨fun n z => ⟨fun j h => (by cases h), k4, g4, d4, h4⟩, k4, d4, g4, h4, e4, f4⟩
    | n + 5, hq => simp [xT] at hq
set_option maxHeartbeats 1000000 in
/-- THE LAW, from its entry -/
theorem whole_start {p : Program} {e : Env} {s : State} {m : MethodId} {below : List Frame} {meth : Method} {c : Code} (l : Launch) (hflags : l.flags = flags0) {b L : Nat} {xs : Nat → Int32} (hL : L ≤ 2560) (C0 : lw_At p s m meth c b L xs) : W p l e room_1 s m #[Value.ref b] below meth c s.heap [] 0 0 (lw_Z below #[Value.ref b] s) (entryFrame m ([Value.ref b] : List Value).toArray 4) := by
  obtain ⟨hx, hb, hr, hml, hown, hts, hxs, hbl, hlocks, hgv⟩ := C0
  obtain ⟨D, hK⟩ := law_K hts
  have X : Cx p s m meth c #[Value.ref b] code 4 RL ret D := ⟨hx, hb, hml, hown, fun w h => hts w (gw_in h), hK, hr, hlocks⟩
  have hl := lv_entry ([.ref b]) (n := 4) (Nat.le_of_ble_eq_true rfl)
  rw [lg_entry_eq]
  have hg : G p l e room_1 s m #[Value.ref b] below meth c D s.heap.size 4 0 0 (lw_Z below #[Value.ref b] s) s.heap.size (fun _ => none) (fun _ _ => none) (fun _ _ => 0) 0 [some (.ref b), none, none, none] [] := by
    refine G.newo (ci := 5) (C := RX5) (T := TX5) (N := 7) X gz5 rfl cl_L_7 inst5 ini_X5 tyX5_ok hgz5 3 dL_law_0 rfl ⟨Nat.le_of_ble_eq_true rfl, Nat.le_of_ble_eq_true rfl⟩ ?_
    refine G.dup X 4 dL_law_3 rfl rfl ?_
    refine G.iC0 (d := 4) X ml_L_9 yi_X5_init 7 dL_law_4 rfl (c_X5_init l D s.heap.size s.heap.size _ _ _ kn_same (fun k => rn_same) (fun k => by rw [ms_same]; rfl)) (fun _ _ _ _ _ h => h.1) (by decide) ⟨Nat.le_of_ble_eq_true rfl, Nat.le_of_ble_eq_true rfl⟩ (Nat.le_of_ble_eq_true rfl) (fun sz1 kd1 rf1 M1 h1 => ?_)
    obtain ⟨-, hz1, S1, C1, -⟩ := h1
    subst hz1
    refine G.astore_n (ls' := [_, _, _, _]) X 8 dL_law_7 rfl (by decide) rfl ?_
    refine G.newo (ci := 6) (C := RX6) (T := TX6) (N := 12) X gz6 rfl cl_L_10 inst6 ini_X6 tyX6_ok hgz6 11 dL_law_8 rfl ⟨Nat.le_of_ble_eq_true rfl, Nat.le_of_ble_eq_true rfl⟩ ?_
    refine G.dup X 12 dL_law_11 rfl rfl ?_
    refine G.iC0 (d := 1) X ml_L_12 yi_X6_init 15 dL_law_12 rfl (c_X6_init l D s.heap.size (s.heap.size + 215) _ _ _ kn_same (fun k => rn_same) (fun k => by rw [ms_same]; rfl)) (fun _ _ _ _ _ h => h.1) (by decide) ⟨Nat.le_of_ble_eq_true rfl, Nat.le_of_ble_eq_true rfl⟩ (Nat.le_of_ble_eq_true rfl) (fun sz2 kd2 rf2 M2 h2 => ?_)
    obtain ⟨-, hz2, S2, C2, O2⟩ := h2
    have O2 := O2.born
    subst hz2
    refine G.astore_n (ls' := [_, _, _, _]) X 16 dL_law_15 rfl (by decide) rfl ?_
    refine G.iconst X 17 dL_law_16 rfl ?_
    refine G.istore_n (ls' := [_, _, _, _]) X 18 dL_law_17 rfl (by decide) rfl ?_
    refine G.at (cells' := 223) (slots' := 4028) (sz' := s.heap.size + 215 + 8) (by rfl) (by rfl) rfl ?_
    have hIv : Iv rowI rowI [] none := ⟨⟨Vr.init, Tl.rf⟩, fun q hq => absurd hq List.not_mem_nil, fun q hq => by cases hq⟩
    exact law_loop X hxs hbl hL (L + 1) 0 M2 rowI [] none [] (by omega) (Nat.zero_le _) ⟨S1.old (fun x g1 g2 => ⟨(O2 x (by omega)).1, (O2 x (by omega)).2.1⟩), S2, rfl, hIv, CSt.keep C1 Vr.init.1.bn hIv.cb (fun x g1 g2 => (O2 x (by omega)).2.2), C2⟩
  refine hg s.heap [] _ ⟨rfl, Nat.le_refl _, fun a k h => (by cases h), fun a ci k h => (by cases h), fun a n j h => (by cases h)⟩ va_S.rf ⟨?_, ?_⟩
  · exact hl
  · intro v hv
    simp at hv
    rw [hv]
    rfl
