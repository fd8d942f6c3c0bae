/-! what is told -/
def setF (m w : Int) (r : xR) : Int := if ¬ (0 ≤ m ∧ m < r 6) then -1 else if w = 0 then fS r m.toNat 0 else if w = 1 then fS r m.toNat 1 else if w = 2 then fS r m.toNat 2 else if w = 3 then fS r m.toNat 3 else if w = 4 then fS r m.toNat 4 else if w = 5 then (if fS r m.toNat 5 = 0 then -5 else fS r m.toNat 5 - 1) else if w = 6 then fS r m.toNat 6 else if w = 7 then fS r m.toNat 7 else if w = 8 then fS r m.toNat 8 else if w = 9 then hoursL r m.toNat else -2
def sitF (m w : Int) (r : xR) : Int := if ¬ (0 ≤ m ∧ m < r 7) then -1 else if w = 0 then fC r m.toNat 0 else if w = 1 then fC r m.toNat 1 else if w = 2 then fC r m.toNat 2 else if w = 3 then fC r m.toNat 3 else if w = 4 then (if fC r m.toNat 4 = 0 then -5 else fC r m.toNat 4 - 1) else if w = 5 then fC r m.toNat 5 else if w = 6 then fC r m.toNat 6 else if w = 7 then fC r m.toNat 7 else if w = 8 then (if fC r m.toNat 8 = 0 then -5 else fC r m.toNat 8) else if w = 9 then (if fC r m.toNat 2 ≤ r 0 ∧ r 0 < fC r m.toNat 3 then 1 else 0) else -2
def whyF (m : Int) (r : xR) : Int := if ¬ (0 ≤ m ∧ m < r 7) then -1 else if ¬ (fC r m.toNat 2 ≤ r 0 ∧ r 0 < fC r m.toNat 3) then -5 else causeR r m.toNat
def nthF (L : List Nat) (u : Int) : Int := if u < 0 then -2 else if u < L.length then ((L.getD u.toNat 0 : Nat) : Int) else -5
def foreF (n w : Int) (r : xR) : Int := if ¬ ((1 ≤ n ∧ n ≤ 24) ∧ (0 ≤ w ∧ w ≤ 3)) then -2 else if 999 < r 0 + n then -4 else if w = 0 then hoursR r n.toNat 8 - r 8 else if w = 1 then hoursR r n.toNat 9 - r 9 else if w = 2 then hoursR r n.toNat 4 - r 4 else darkB (hoursR r n.toNat) r (nC r)
def cntF (w : Int) (r : xR) (hl tl : Int) : Int := if w = 0 then r 0 else if w = 1 then r 1 + 100 else if w = 2 then r 2 else if w = 3 then r 3 else if w = 4 then sumN (fun i => fS r i 4) (nS r) else if w = 5 then r 4 else if w = 6 then r 5 else if w = 7 then r 6 else if w = 8 then yardZ r (nS r) else if w = 9 then r 7 else if w = 10 then ((needL r).length : Int) else if w = 11 then r 8 else if w = 12 then r 9 else if w = 13 then r 10 else if w = 14 then r 11 else if w = 15 then hl else if w = 16 then tl else -2
set_option maxHeartbeats 1000000 in
set_option maxRecDepth 100000 in
theorem c_X5_set (l : Launch) (D : xD) (Bs sz : Nat) (kd : xKd) (rf : xRf) (M : xM) (a : Nat) (r : xR) (h : List xR) (sn : Option xR) (t : List Int) (x y : Int) (hX : ShX kd rf a) (hV : Vr r) (hB : CB h sn) (hC : CSt M a r h sn t) (rx : IR x) (ry : IR y) : CtI l D Bs yX5_set cX5_set 4 (some .int) 2 [.ref a, vi x, vi y] sz kd rf M (fun q M' => q = setF x y r ∧ M' = M) := by
  refine Ctr.of (yv_X5_set.1.2.2.2.2) (List.forall_mem_cons.mpr ⟨rfl, List.forall_mem_cons.mpr ⟨rfl, List.forall_mem_cons.mpr ⟨rfl, fun _ h => absurd h List.not_mem_nil⟩⟩⟩) (Nat.le_of_ble_eq_true rfl) [some (.ref a), some (vi x), some (vi y), none] rfl ?_
  intro p e s m args below meth c X hin
  obtain ⟨hM, ⟨o, hho⟩, hsnf, hsn, htx⟩ := id hC
  have hVk := hV.k
  obtain ⟨n6, n6b⟩ := hV.1.n6
  obtain ⟨n7, n7b⟩ := hV.1.n7
  obtain ⟨hv0, hv1, hv2, hv3, hv6, hv7⟩ := hV.1.1
  obtain ⟨hb0, hb1, hb2, hb3, -, -, -, hb7, hb8⟩ := hM.1
  refine G.aload_n X 1 dX5_set_0 rfl rfl ?_
  refine G.getR X fl_X5_10 4 dX5_set_1 rfl (hX).1 (ShX.r0 hX) ?_
  refine G.iload_n X 5 dX5_set_4 rfl rfl ?_
  refine G.vI1 (d := 0) X ml_X5_79 yv_X4_isSet 8 dX5_set_5 rfl (c_X4_isSet l D Bs _ kd rf _ (a + 1) _ ((ShX.now hX)) (by omega) (by omega)) ⟨_, _, ((ShX.now hX)).1, rfl, rfl⟩ (by decide) ⟨Nat.zero_le _, Nat.zero_le _⟩ (Nat.le_of_ble_eq_true rfl) (fun r5 M5 h5 => ?_)
  obtain ⟨hr5, hm5⟩ := h5
  subst hr5
  obtain rfl := hm5.symm
  refine G.ifb_ne X 13 11 dX5_set_8 (by decide) rfl (fun hc8 => ?_) (fun hc8 => ?_)
  · obtain ⟨i, rfl⟩ : ∃ i : Nat, x = (i : Int) := ⟨x.toNat, by omega⟩
    refine G.aload_n X 14 dX5_set_13 rfl rfl ?_
    refine G.getR X fl_X5_10 17 dX5_set_14 rfl (hX).1 (ShX.r0 hX) ?_
    refine G.getR X fl_X5_83 20 dX5_set_17 rfl ((ShX.now hX)).1 ((ShX.now hX)).2.2.1 ?_
    refine G.iload_n X 21 dX5_set_20 rfl rfl ?_
    refine G.aald X 22 dX5_set_21 rfl (ShSt.kg (ShX.now hX)) (by decide) (ShSt.rg (ShX.now hX) (by omega)) rfl (by omega) (by decide) ?_
    refine G.astore_n (ls' := [_, _, _, _]) X 23 dX5_set_22 rfl (by decide) rfl ?_
    refine G.iload_n X 24 dX5_set_23 rfl rfl ?_
    by_cases hsw : 0 ≤ y ∧ y ≤ 9
    · have hsw2 : y = 0 ∨ y = 1 ∨ y = 2 ∨ y = 3 ∨ y = 4 ∨ y = 5 ∨ y = 6 ∨ y = 7 ∨ y = 8 ∨ y = 9 := by omega
      rcases hsw2 with hsw2 | hsw2 | hsw2 | hsw2 | hsw2 | hsw2 | hsw2 | hsw2 | hsw2 | hsw2
      · subst hsw2
        refine G.tableIn X 80 dX5_set_24 (by omega) (by omega) (by omega) (by rfl) (by decide) ?_
        refine G.aload_n X 81 dX5_set_80 rfl rfl ?_
        refine G.getI X fl_X5_131 84 dX5_set_81 rfl (ShSt.g (ShX.now hX) (by omega)).1 ((ShSt.g (ShX.now hX) (by omega)).2 0) ?_
        refine G.iret X dX5_set_84 ⟨Nat.le_refl _, Nat.le_refl _⟩ ⟨rfl, rfl, rfl, _, rfl, ?_⟩
        refine ⟨?_, rfl⟩
        obtain ⟨g0, -, -, -, -, -, -, -, -⟩ := hM.2.1 (i) (by omega)
        unfold setF
        rw [if_neg (by omega), if_pos rfl]
        try simp only [Int.toNat_natCast]
        first
          | done
          | (exact g0)
      · subst hsw2
        refine G.tableIn X 85 dX5_set_24 (by omega) (by omega) (by omega) (by rfl) (by decide) ?_
        refine G.aload_n X 86 dX5_set_85 rfl rfl ?_
        refine G.getI X fl_X5_210 89 dX5_set_86 rfl (ShSt.g (ShX.now hX) (by omega)).1 ((ShSt.g (ShX.now hX) (by omega)).2 1) ?_
        refine G.iret X dX5_set_89 ⟨Nat.le_refl _, Nat.le_refl _⟩ ⟨rfl, rfl, rfl, _, rfl, ?_⟩
        refine ⟨?_, rfl⟩
        obtain ⟨-, g1, -, -, -, -, -, -, -⟩ := hM.2.1 (i) (by omega)
        unfold setF
        rw [if_neg (by omega), if_neg (by decide), if_pos rfl]
        try simp only [Int.toNat_natCast]
        first
          | done
          | (exact g1)
      · subst hsw2
        refine G.tableIn X 90 dX5_set_24 (by omega) (by omega) (by omega) (by rfl) (by decide) ?_
        refine G.aload_n X 91 dX5_set_90 rfl rfl ?_
        refine G.getI X fl_X5_213 94 dX5_set_91 rfl (ShSt.g (ShX.now hX) (by omega)).1 ((ShSt.g (ShX.now hX) (by omega)).2 2) ?_
        refine G.iret X dX5_set_94 ⟨Nat.le_refl _, Nat.le_refl _⟩ ⟨rfl, rfl, rfl, _, rfl, ?_⟩
        refine ⟨?_, rfl⟩
        obtain ⟨-, -, g2, -, -, -, -, -, -⟩ := hM.2.1 (i) (by omega)
        unfold setF
        rw [if_neg (by omega), if_neg (by decide), if_neg (by decide), if_pos rfl]
        try simp only [Int.toNat_natCast]
        first
          | done
          | (exact g2)
      · subst hsw2
        refine G.tableIn X 95 dX5_set_24 (by omega) (by omega) (by omega) (by rfl) (by decide) ?_
        refine G.aload_n X 96 dX5_set_95 rfl rfl ?_
        refine G.getI X fl_X5_216 99 dX5_set_96 rfl (ShSt.g (ShX.now hX) (by omega)).1 ((ShSt.g (ShX.now hX) (by omega)).2 3) ?_
        refine G.iret X dX5_set_99 ⟨Nat.le_refl _, Nat.le_refl _⟩ ⟨rfl, rfl, rfl, _, rfl, ?_⟩
        refine ⟨?_, rfl⟩
        obtain ⟨-, -, -, g3, -, -, -, -, -⟩ := hM.2.1 (i) (by omega)
        unfold setF
        rw [if_neg (by omega), if_neg (by decide), if_neg (by decide), if_neg (by decide), if_pos rfl]
        try simp only [Int.toNat_natCast]
        first
          | done
          | (exact g3)
      · subst hsw2
        refine G.tableIn X 100 dX5_set_24 (by omega) (by omega) (by omega) (by rfl) (by decide) ?_
        refine G.aload_n X 101 dX5_set_100 rfl rfl ?_
        refine G.getI X fl_X5_100 104 dX5_set_101 rfl (ShSt.g (ShX.now hX) (by omega)).1 ((ShSt.g (ShX.now hX) (by omega)).2 4) ?_
        refine G.iret X dX5_set_104 ⟨Nat.le_refl _, Nat.le_refl _⟩ ⟨rfl, rfl, rfl, _, rfl, ?_⟩
        refine ⟨?_, rfl⟩
        obtain ⟨-, -, -, -, g4, -, -, -, -⟩ := hM.2.1 (i) (by omega)
        unfold setF
        rw [if_neg (by omega), if_neg (by decide), if_neg (by decide), if_neg (by decide), if_neg (by decide), if_pos rfl]
        try simp only [Int.toNat_natCast]
        first
          | done
          | (exact g4)
      · subst hsw2
        refine G.tableIn X 105 dX5_set_24 (by omega) (by omega) (by omega) (by rfl) (by decide) ?_
        refine G.aload_n X 106 dX5_set_105 rfl rfl ?_
        refine G.getI X fl_X5_87 109 dX5_set_106 rfl (ShSt.g (ShX.now hX) (by omega)).1 ((ShSt.g (ShX.now hX) (by omega)).2 5) ?_
        refine G.iret X dX5_set_109 ⟨Nat.le_refl _, Nat.le_refl _⟩ ⟨rfl, rfl, rfl, _, rfl, ?_⟩
        refine ⟨?_, rfl⟩
        obtain ⟨-, -, -, -, -, g5, -, -, -⟩ := hM.2.1 (i) (by omega)
        obtain ⟨-, -, -, -, -, v5, -, -⟩ := hV.1.2.1 (i) (by omega)
        unfold setF
        rw [if_neg (by omega), if_neg (by decide), if_neg (by decide), if_neg (by decide), if_neg (by decide), if_neg (by decide), if_pos rfl]
        try simp only [Int.toNat_natCast]
        first
          | done
          | (split <;> omega)
      · subst hsw2
        refine G.tableIn X 110 dX5_set_24 (by omega) (by omega) (by omega) (by rfl) (by decide) ?_
        refine G.aload_n X 111 dX5_set_110 rfl rfl ?_
        obtain ⟨-, -, -, -, -, -, g6, -, -⟩ := hM.2.1 (i) (by omega)
        obtain ⟨-, -, -, -, -, -, v6, -⟩ := hV.1.2.1 (i) (by omega)
        refine G.getI X fl_X5_219 114 dX5_set_111 rfl (ShSt.g (ShX.now hX) (by omega)).1 ((ShSt.g (ShX.now hX) (by omega)).2 6) ?_
        refine G.if_eq X 121 117 dX5_set_114 (by decide) rfl (by omega) (fun hc114 => ?_) (fun hc114 => ?_)
        · refine G.iconst X 122 dX5_set_121 rfl ?_
          refine G.iret X dX5_set_122 ⟨Nat.le_refl _, Nat.le_refl _⟩ ⟨rfl, rfl, rfl, _, rfl, ?_⟩
          refine ⟨?_, rfl⟩
          unfold setF
          rw [if_neg (by omega), if_neg (by decide), if_neg (by decide), if_neg (by decide), if_neg (by decide), if_neg (by decide), if_neg (by decide), if_pos rfl]
          try simp only [Int.toNat_natCast]
          first
            | done
            | (omega)
        · refine G.iconst X 118 dX5_set_117 rfl ?_
          refine G.goto X 122 dX5_set_118 (by decide) ?_
          refine G.iret X dX5_set_122 ⟨Nat.le_refl _, Nat.le_refl _⟩ ⟨rfl, rfl, rfl, _, rfl, ?_⟩
          refine ⟨?_, rfl⟩
          unfold setF
          rw [if_neg (by omega), if_neg (by decide), if_neg (by decide), if_neg (by decide), if_neg (by decide), if_neg (by decide), if_neg (by decide), if_pos rfl]
          try simp only [Int.toNat_natCast]
          first
            | done
            | (omega)
      · subst hsw2
        refine G.tableIn X 123 dX5_set_24 (by omega) (by omega) (by omega) (by rfl) (by decide) ?_
        refine G.aload_n X 124 dX5_set_123 rfl rfl ?_
        refine G.getI X fl_X5_222 127 dX5_set_124 rfl (ShSt.g (ShX.now hX) (by omega)).1 ((ShSt.g (ShX.now hX) (by omega)).2 7) ?_
        refine G.iret X dX5_set_127 ⟨Nat.le_refl _, Nat.le_refl _⟩ ⟨rfl, rfl, rfl, _, rfl, ?_⟩
        refine ⟨?_, rfl⟩
        obtain ⟨-, -, -, -, -, -, -, g7, -⟩ := hM.2.1 (i) (by omega)
        unfold setF
        rw [if_neg (by omega), if_neg (by decide), if_neg (by decide), if_neg (by decide), if_neg (by decide), if_neg (by decide), if_neg (by decide), if_neg (by decide), if_pos rfl]
        try simp only [Int.toNat_natCast]
        first
          | done
          | (exact g7)
      · subst hsw2
        refine G.tableIn X 128 dX5_set_24 (by omega) (by omega) (by omega) (by rfl) (by decide) ?_
        refine G.aload_n X 129 dX5_set_128 rfl rfl ?_
        refine G.getI X fl_X5_225 132 dX5_set_129 rfl (ShSt.g (ShX.now hX) (by omega)).1 ((ShSt.g (ShX.now hX) (by omega)).2 8) ?_
        refine G.iret X dX5_set_132 ⟨Nat.le_refl _, Nat.le_refl _⟩ ⟨rfl, rfl, rfl, _, rfl, ?_⟩
        refine ⟨?_, rfl⟩
        obtain ⟨-, -, -, -, -, -, -, -, g8⟩ := hM.2.1 (i) (by omega)
        unfold setF
        rw [if_neg (by omega), if_neg (by decide), if_neg (by decide), if_neg (by decide), if_neg (by decide), if_neg (by decide), if_neg (by decide), if_neg (by decide), if_neg (by decide), if_pos rfl]
        try simp only [Int.toNat_natCast]
        first
          | done
          | (exact g8)
      · subst hsw2
        refine G.tableIn X 133 dX5_set_24 (by omega) (by omega) (by omega) (by rfl) (by decide) ?_
        refine G.aload_n X 134 dX5_set_133 rfl rfl ?_
        obtain ⟨-, -, g2, -, g4, -, -, -, -⟩ := hM.2.1 (i) (by omega)
        obtain ⟨-, v1, v2, -, v4, -, -, -⟩ := hV.1.2.1 (i) (by omega)
        refine G.vI0 (d := 0) X ml_X5_228 yv_X1_hoursLeft 137 dX5_set_134 rfl (c_X1_hoursLeft l D Bs _ kd rf _ _ (ShSt.g (ShX.now hX) (by omega)) (by omega) (by omega)) ⟨_, _, (ShSt.g (ShX.now hX) (by omega)).1, rfl, rfl⟩ (by decide) ⟨Nat.zero_le _, Nat.zero_le _⟩ (Nat.le_of_ble_eq_true rfl) (fun r134 M134 h134 => ?_)
        obtain ⟨hr134, hm134⟩ := h134
        rw [g4, g2] at hr134
        obtain rfl : r134 = hoursL r i := hr134
        obtain rfl := hm134.symm
        refine G.iret X dX5_set_137 ⟨Nat.le_refl _, Nat.le_refl _⟩ ⟨rfl, rfl, rfl, _, rfl, ?_⟩
        refine ⟨?_, rfl⟩
        unfold setF
        rw [if_neg (by omega), if_neg (by decide), if_neg (by decide), if_neg (by decide), if_neg (by decide), if_neg (by decide), if_neg (by decide), if_neg (by decide), if_neg (by decide), if_neg (by decide), if_pos rfl]
        try simp only [Int.toNat_natCast]
        first
          | done
          | (rfl)
    · refine G.tableOut X 138 dX5_set_24 (by omega) (by omega) (by decide) ?_
      refine G.bipush X 140 dX5_set_138 rfl (by decide) ?_
      refine G.iret X dX5_set_140 ⟨Nat.le_refl _, Nat.le_refl _⟩ ⟨rfl, rfl, rfl, _, rfl, ?_⟩
      refine ⟨?_, rfl⟩
      unfold setF
      rw [if_neg (by omega), if_neg (by omega), if_neg (by omega), if_neg (by omega), if_neg (by omega), if_neg (by omega), if_neg (by omega), if_neg (by omega), if_neg (by omega), if_neg (by omega), if_neg (by omega)]
  · refine G.iconst X 12 dX5_set_11 rfl ?_
    refine G.iret X dX5_set_12 ⟨Nat.le_refl _, Nat.le_refl _⟩ ⟨rfl, rfl, rfl, _, rfl, ?_⟩
    refine ⟨?_, rfl⟩
    unfold setF
    rw [if_pos (by omega)]
set_option maxHeartbeats 1000000 in
set_option maxRecDepth 100000 in
theorem c_X5_site (l : Launch) (D : xD) (Bs sz : Nat) (kd : xKd) (rf : xRf) (M : xM) (a : Nat) (r : xR) (h : List xR) (sn : Option xR) (t : List Int) (x y : Int) (hX : ShX kd rf a) (hV : Vr r) (hB : CB h sn) (hC : CSt M a r h sn t) (rx : IR x) (ry : IR y) : CtI l D Bs yX5_site cX5_site 4 (some .int) 1 [.ref a, vi x, vi y] sz kd rf M (fun q M' => q = sitF x y r ∧ M' = M) := by
  refine Ctr.of (yv_X5_site.1.2.2.2.2) (List.forall_mem_cons.mpr ⟨rfl, List.forall_mem_cons.mpr ⟨rfl, List.forall_mem_cons.mpr ⟨rfl, fun _ h => absurd h List.not_mem_nil⟩⟩⟩) (Nat.le_of_ble_eq_true rfl) [some (.ref a), some (vi x), some (vi y), none] rfl ?_
  intro p e s m args below meth c X hin
  obtain ⟨hM, ⟨o, hho⟩, hsnf, hsn, htx⟩ := id hC
  have hVk := hV.k
  obtain ⟨n6, n6b⟩ := hV.1.n6
  obtain ⟨n7, n7b⟩ := hV.1.n7
  obtain ⟨hv0, hv1, hv2, hv3, hv6, hv7⟩ := hV.1.1
  obtain ⟨hb0, hb1, hb2, hb3, -, -, -, hb7, hb8⟩ := hM.1
  refine G.aload_n X 1 dX5_site_0 rfl rfl ?_
  refine G.getR X fl_X5_10 4 dX5_site_1 rfl (hX).1 (ShX.r0 hX) ?_
  refine G.iload_n X 5 dX5_site_4 rfl rfl ?_
  refine G.vI1 (d := 0) X ml_X5_113 yv_X4_isSite 8 dX5_site_5 rfl (c_X4_isSite l D Bs _ kd rf _ (a + 1) _ ((ShX.now hX)) (by omega) (by omega)) ⟨_, _, ((ShX.now hX)).1, rfl, rfl⟩ (by decide) ⟨Nat.zero_le _, Nat.zero_le _⟩ (Nat.le_of_ble_eq_true rfl) (fun r5 M5 h5 => ?_)
  obtain ⟨hr5, hm5⟩ := h5
  subst hr5
  obtain rfl := hm5.symm
  refine G.ifb_ne X 13 11 dX5_site_8 (by decide) rfl (fun hc8 => ?_) (fun hc8 => ?_)
  · obtain ⟨j, rfl⟩ : ∃ j : Nat, x = (j : Int) := ⟨x.toNat, by omega⟩
    refine G.aload_n X 14 dX5_site_13 rfl rfl ?_
    refine G.getR X fl_X5_10 17 dX5_site_14 rfl (hX).1 (ShX.r0 hX) ?_
    refine G.getR X fl_X5_116 20 dX5_site_17 rfl ((ShX.now hX)).1 ((ShX.now hX)).2.2.2.1 ?_
    refine G.iload_n X 21 dX5_site_20 rfl rfl ?_
    refine G.aald X 22 dX5_site_21 rfl (ShSt.kc (ShX.now hX)) (by decide) (ShSt.rc (ShX.now hX) (by omega)) rfl (by omega) (by decide) ?_
    refine G.astore_n (ls' := [_, _, _, _]) X 23 dX5_site_22 rfl (by decide) rfl ?_
    refine G.iload_n X 24 dX5_site_23 rfl rfl ?_
    by_cases hsw : 0 ≤ y ∧ y ≤ 9
    · have hsw2 : y = 0 ∨ y = 1 ∨ y = 2 ∨ y = 3 ∨ y = 4 ∨ y = 5 ∨ y = 6 ∨ y = 7 ∨ y = 8 ∨ y = 9 := by omega
      rcases hsw2 with hsw2 | hsw2 | hsw2 | hsw2 | hsw2 | hsw2 | hsw2 | hsw2 | hsw2 | hsw2
      · subst hsw2
        refine G.tableIn X 80 dX5_site_24 (by omega) (by omega) (by omega) (by rfl) (by decide) ?_
        refine G.aload_n X 81 dX5_site_80 rfl rfl ?_
        refine G.getI X fl_X5_197 84 dX5_site_81 rfl (ShSt.c (ShX.now hX) (by omega)).1 ((ShSt.c (ShX.now hX) (by omega)).2 0) ?_
        refine G.iret X dX5_site_84 ⟨Nat.le_refl _, Nat.le_refl _⟩ ⟨rfl, rfl, rfl, _, rfl, ?_⟩
        refine ⟨?_, rfl⟩
        obtain ⟨c0, -, -, -, -, -, -, -, -⟩ := hM.2.2 (j) (by omega)
        unfold sitF
        rw [if_neg (by omega), if_pos rfl]
        try simp only [Int.toNat_natCast]
        first
          | done
          | (exact c0)
      · subst hsw2
        refine G.tableIn X 85 dX5_site_24 (by omega) (by omega) (by omega) (by rfl) (by decide) ?_
        refine G.aload_n X 86 dX5_site_85 rfl rfl ?_
        refine G.getI X fl_X5_134 89 dX5_site_86 rfl (ShSt.c (ShX.now hX) (by omega)).1 ((ShSt.c (ShX.now hX) (by omega)).2 1) ?_
        refine G.iret X dX5_site_89 ⟨Nat.le_refl _, Nat.le_refl _⟩ ⟨rfl, rfl, rfl, _, rfl, ?_⟩
        refine ⟨?_, rfl⟩
        obtain ⟨-, c1, -, -, -, -, -, -, -⟩ := hM.2.2 (j) (by omega)
        unfold sitF
        rw [if_neg (by omega), if_neg (by decide), if_pos rfl]
        try simp only [Int.toNat_natCast]
        first
          | done
          | (exact c1)
      · subst hsw2
        refine G.tableIn X 90 dX5_site_24 (by omega) (by omega) (by omega) (by rfl) (by decide) ?_
        refine G.aload_n X 91 dX5_site_90 rfl rfl ?_
        refine G.getI X fl_X5_194 94 dX5_site_91 rfl (ShSt.c (ShX.now hX) (by omega)).1 ((ShSt.c (ShX.now hX) (by omega)).2 2) ?_
        refine G.iret X dX5_site_94 ⟨Nat.le_refl _, Nat.le_refl _⟩ ⟨rfl, rfl, rfl, _, rfl, ?_⟩
        refine ⟨?_, rfl⟩
        obtain ⟨-, -, c2, -, -, -, -, -, -⟩ := hM.2.2 (j) (by omega)
        unfold sitF
        rw [if_neg (by omega), if_neg (by decide), if_neg (by decide), if_pos rfl]
        try simp only [Int.toNat_natCast]
        first
          | done
          | (exact c2)
      · subst hsw2
        refine G.tableIn X 95 dX5_site_24 (by omega) (by omega) (by omega) (by rfl) (by decide) ?_
        refine G.aload_n X 96 dX5_site_95 rfl rfl ?_
        refine G.getI X fl_X5_128 99 dX5_site_96 rfl (ShSt.c (ShX.now hX) (by omega)).1 ((ShSt.c (ShX.now hX) (by omega)).2 3) ?_
        refine G.iret X dX5_site_99 ⟨Nat.le_refl _, Nat.le_refl _⟩ ⟨rfl, rfl, rfl, _, rfl, ?_⟩
        refine ⟨?_, rfl⟩
        obtain ⟨-, -, -, c3, -, -, -, -, -⟩ := hM.2.2 (j) (by omega)
        unfold sitF
        rw [if_neg (by omega), if_neg (by decide), if_neg (by decide), if_neg (by decide), if_pos rfl]
        try simp only [Int.toNat_natCast]
        first
          | done
          | (exact c3)
      · subst hsw2
        refine G.tableIn X 100 dX5_site_24 (by omega) (by omega) (by omega) (by rfl) (by decide) ?_
        refine G.aload_n X 101 dX5_site_100 rfl rfl ?_
        refine G.getI X fl_X5_120 104 dX5_site_101 rfl (ShSt.c (ShX.now hX) (by omega)).1 ((ShSt.c (ShX.now hX) (by omega)).2 4) ?_
        refine G.iret X dX5_site_104 ⟨Nat.le_refl _, Nat.le_refl _⟩ ⟨rfl, rfl, rfl, _, rfl, ?_⟩
        refine ⟨?_, rfl⟩
        obtain ⟨-, -, -, -, c4, -, -, -, -⟩ := hM.2.2 (j) (by omega)
        obtain ⟨-, -, -, -, w4, -, -⟩ := hV.1.2.2 (j) (by omega)
        unfold sitF
        rw [if_neg (by omega), if_neg (by decide), if_neg (by decide), if_neg (by decide), if_neg (by decide), if_pos rfl]
        try simp only [Int.toNat_natCast]
        first
          | done
          | (split <;> omega)
      · subst hsw2
        refine G.tableIn X 105 dX5_site_24 (by omega) (by omega) (by omega) (by rfl) (by decide) ?_
        refine G.aload_n X 106 dX5_site_105 rfl rfl ?_
        refine G.getI X fl_X5_231 109 dX5_site_106 rfl (ShSt.c (ShX.now hX) (by omega)).1 ((ShSt.c (ShX.now hX) (by omega)).2 5) ?_
        refine G.iret X dX5_site_109 ⟨Nat.le_refl _, Nat.le_refl _⟩ ⟨rfl, rfl, rfl, _, rfl, ?_⟩
        refine ⟨?_, rfl⟩
        obtain ⟨-, -, -, -, -, c5, -, -, -⟩ := hM.2.2 (j) (by omega)
        unfold sitF
        rw [if_neg (by omega), if_neg (by decide), if_neg (by decide), if_neg (by decide), if_neg (by decide), if_neg (by decide), if_pos rfl]
        try simp only [Int.toNat_natCast]
        first
          | done
          | (exact c5)
      · subst hsw2
        refine G.tableIn X 110 dX5_site_24 (by omega) (by omega) (by omega) (by rfl) (by decide) ?_
        refine G.aload_n X 111 dX5_site_110 rfl rfl ?_
        refine G.getI X fl_X5_234 114 dX5_site_111 rfl (ShSt.c (ShX.now hX) (by omega)).1 ((ShSt.c (ShX.now hX) (by omega)).2 6) ?_
        refine G.iret X dX5_site_114 ⟨Nat.le_refl _, Nat.le_refl _⟩ ⟨rfl, rfl, rfl, _, rfl, ?_⟩
        refine ⟨?_, rfl⟩
        obtain ⟨-, -, -, -, -, -, c6, -, -⟩ := hM.2.2 (j) (by omega)
        unfold sitF
        rw [if_neg (by omega), if_neg (by decide), if_neg (by decide), if_neg (by decide), if_neg (by decide), if_neg (by decide), if_neg (by decide), if_pos rfl]
        try simp only [Int.toNat_natCast]
        first
          | done
          | (exact c6)
      · subst hsw2
        refine G.tableIn X 115 dX5_site_24 (by omega) (by omega) (by omega) (by rfl) (by decide) ?_
        refine G.aload_n X 116 dX5_site_115 rfl rfl ?_
        refine G.getI X fl_X5_237 119 dX5_site_116 rfl (ShSt.c (ShX.now hX) (by omega)).1 ((ShSt.c (ShX.now hX) (by omega)).2 7) ?_
        refine G.iret X dX5_site_119 ⟨Nat.le_refl _, Nat.le_refl _⟩ ⟨rfl, rfl, rfl, _, rfl, ?_⟩
        refine ⟨?_, rfl⟩
        obtain ⟨-, -, -, -, -, -, -, c7, -⟩ := hM.2.2 (j) (by omega)
        unfold sitF
        rw [if_neg (by omega), if_neg (by decide), if_neg (by decide), if_neg (by decide), if_neg (by decide), if_neg (by decide), if_neg (by decide), if_neg (by decide), if_pos rfl]
        try simp only [Int.toNat_natCast]
        first
          | done
          | (exact c7)
      · subst hsw2
        refine G.tableIn X 120 dX5_site_24 (by omega) (by omega) (by omega) (by rfl) (by decide) ?_
        refine G.aload_n X 121 dX5_site_120 rfl rfl ?_
        refine G.getI X fl_X5_240 124 dX5_site_121 rfl (ShSt.c (ShX.now hX) (by omega)).1 ((ShSt.c (ShX.now hX) (by omega)).2 8) ?_
        refine G.iret X dX5_site_124 ⟨Nat.le_refl _, Nat.le_refl _⟩ ⟨rfl, rfl, rfl, _, rfl, ?_⟩
        refine ⟨?_, rfl⟩
        obtain ⟨-, -, -, -, -, -, -, -, c8⟩ := hM.2.2 (j) (by omega)
        obtain ⟨-, -, -, -, -, -, w8⟩ := hV.1.2.2 (j) (by omega)
        unfold sitF
        rw [if_neg (by omega), if_neg (by decide), if_neg (by decide), if_neg (by decide), if_neg (by decide), if_neg (by decide), if_neg (by decide), if_neg (by decide), if_neg (by decide), if_pos rfl]
        try simp only [Int.toNat_natCast]
        first
          | done
          | (split <;> omega)
      · subst hsw2
        refine G.tableIn X 125 dX5_site_24 (by omega) (by omega) (by omega) (by rfl) (by decide) ?_
        refine G.aload_n X 126 dX5_site_125 rfl rfl ?_
        refine G.aload_n X 127 dX5_site_126 rfl rfl ?_
        refine G.getR X fl_X5_10 130 dX5_site_127 rfl (hX).1 (ShX.r0 hX) ?_
        refine G.getI X fl_X5_125 133 dX5_site_130 rfl ((ShX.now hX)).1 (((ShX.now hX)).2.1 0 (by decide)) ?_
        obtain ⟨-, -, c2, c3, -, -, -, -, -⟩ := hM.2.2 (j) (by omega)
        obtain ⟨-, -, w2, w3, -, -, -⟩ := hV.1.2.2 (j) (by omega)
        refine G.vI1 (d := 0) X ml_X5_243 yv_X0_isOpenIn 136 dX5_site_133 rfl (c_X0_isOpenIn l D Bs _ kd rf _ _ _ (ShSt.c (ShX.now hX) (by omega)) (by omega) (by omega) (by omega)) ⟨_, _, (ShSt.c (ShX.now hX) (by omega)).1, rfl, rfl⟩ (by decide) ⟨Nat.zero_le _, Nat.zero_le _⟩ (Nat.le_of_ble_eq_true rfl) (fun r133 M133 h133 => ?_)
        obtain ⟨hr133, hm133⟩ := h133
        subst hr133
        obtain rfl := hm133.symm
        refine G.ifb_eq X 143 139 dX5_site_136 (by decide) rfl (fun hc136 => ?_) (fun hc136 => ?_)
        · refine G.iconst X 144 dX5_site_143 rfl ?_
          refine G.iret X dX5_site_144 ⟨Nat.le_refl _, Nat.le_refl _⟩ ⟨rfl, rfl, rfl, _, rfl, ?_⟩
          refine ⟨?_, rfl⟩
          unfold sitF
          rw [if_neg (by omega), if_neg (by decide), if_neg (by decide), if_neg (by decide), if_neg (by decide), if_neg (by decide), if_neg (by decide), if_neg (by decide), if_neg (by decide), if_neg (by decide), if_pos rfl]
          try simp only [Int.toNat_natCast]
          first
            | done
            | (first | (rw [if_pos (by omega)]; done) | (rw [if_neg (by omega)]; done))
        · refine G.iconst X 140 dX5_site_139 rfl ?_
          refine G.goto X 144 dX5_site_140 (by decide) ?_
          refine G.iret X dX5_site_144 ⟨Nat.le_refl _, Nat.le_refl _⟩ ⟨rfl, rfl, rfl, _, rfl, ?_⟩
          refine ⟨?_, rfl⟩
          unfold sitF
          rw [if_neg (by omega), if_neg (by decide), if_neg (by decide), if_neg (by decide), if_neg (by decide), if_neg (by decide), if_neg (by decide), if_neg (by decide), if_neg (by decide), if_neg (by decide), if_pos rfl]
          try simp only [Int.toNat_natCast]
          first
            | done
            | (first | (rw [if_pos (by omega)]; done) | (rw [if_neg (by omega)]; done))
    · refine G.tableOut X 145 dX5_site_24 (by omega) (by omega) (by decide) ?_
      refine G.bipush X 147 dX5_site_145 rfl (by decide) ?_
      refine G.iret X dX5_site_147 ⟨Nat.le_refl _, Nat.le_refl _⟩ ⟨rfl, rfl, rfl, _, rfl, ?_⟩
      refine ⟨?_, rfl⟩
      unfold sitF
      rw [if_neg (by omega), if_neg (by omega), if_neg (by omega), if_neg (by omega), if_neg (by omega), if_neg (by omega), if_neg (by omega), if_neg (by omega), if_neg (by omega), if_neg (by omega), if_neg (by omega)]
  · refine G.iconst X 12 dX5_site_11 rfl ?_
    refine G.iret X dX5_site_12 ⟨Nat.le_refl _, Nat.le_refl _⟩ ⟨rfl, rfl, rfl, _, rfl, ?_⟩
    refine ⟨?_, rfl⟩
    unfold sitF
    rw [if_pos (by omega)]
set_option maxHeartbeats 1000000 in
set_option maxRecDepth 100000 in
theorem c_X5_why (l : Launch) (D : xD) (Bs sz : Nat) (kd : xKd) (rf : xRf) (M : xM) (a : Nat) (r : xR) (h : List xR) (sn : Option xR) (t : List Int) (x : Int) (hX : ShX kd rf a) (hV : Vr r) (hB : CB h sn) (hC : CSt M a r h sn t) (rx : IR x) : CtI l D Bs yX5_why cX5_why 3 (some .int) 3 [.ref a, vi x] sz kd rf M (fun q M' => q = whyF x r ∧ M' = M) := by
  refine Ctr.of (yv_X5_why.1.2.2.2.2) (List.forall_mem_cons.mpr ⟨rfl, List.forall_mem_cons.mpr ⟨rfl, fun _ h => absurd h List.not_mem_nil⟩⟩) (Nat.le_of_ble_eq_true rfl) [some (.ref a), some (vi x), none] rfl ?_
  intro p e s m args below meth c X hin
  obtain ⟨hM, ⟨o, hho⟩, hsnf, hsn, htx⟩ := id hC
  have hVk := hV.k
  obtain ⟨n6, n6b⟩ := hV.1.n6
  obtain ⟨n7, n7b⟩ := hV.1.n7
  obtain ⟨hv0, hv1, hv2, hv3, hv6, hv7⟩ := hV.1.1
  obtain ⟨hb0, hb1, hb2, hb3, hb4, hb5, hb6, hb7, hb8⟩ := hM.1
  refine G.aload_n X 1 dX5_why_0 rfl rfl ?_
  refine G.getR X fl_X5_10 4 dX5_why_1 rfl (hX).1 (ShX.r0 hX) ?_
  refine G.iload_n X 5 dX5_why_4 rfl rfl ?_
  refine G.vI1 (d := 0) X ml_X5_113 yv_X4_isSite 8 dX5_why_5 rfl (c_X4_isSite l D Bs _ kd rf _ (a + 1) _ ((ShX.now hX)) (by omega) (by omega)) ⟨_, _, ((ShX.now hX)).1, rfl, rfl⟩ (by decide) ⟨Nat.zero_le _, Nat.zero_le _⟩ (Nat.le_of_ble_eq_true rfl) (fun r5 M5 h5 => ?_)
  obtain ⟨hr5, hm5⟩ := h5
  subst hr5
  obtain rfl := hm5.symm
  refine G.ifb_ne X 13 11 dX5_why_8 (by decide) rfl (fun hc8 => ?_) (fun hc8 => ?_)
  · obtain ⟨j, rfl⟩ : ∃ j : Nat, x = (j : Int) := ⟨x.toNat, by omega⟩
    obtain ⟨-, -, c2, c3, -, -, -, -, -⟩ := hM.2.2 (j) (by omega)
    obtain ⟨-, -, w2, w3, -, -, -⟩ := hV.1.2.2 (j) (by omega)
    refine G.aload_n X 14 dX5_why_13 rfl rfl ?_
    refine G.getR X fl_X5_10 17 dX5_why_14 rfl (hX).1 (ShX.r0 hX) ?_
    refine G.getR X fl_X5_116 20 dX5_why_17 rfl ((ShX.now hX)).1 ((ShX.now hX)).2.2.2.1 ?_
    refine G.iload_n X 21 dX5_why_20 rfl rfl ?_
    refine G.aald X 22 dX5_why_21 rfl (ShSt.kc (ShX.now hX)) (by decide) (ShSt.rc (ShX.now hX) (by omega)) rfl (by omega) (by decide) ?_
    refine G.astore_n (ls' := [_, _, _]) X 23 dX5_why_22 rfl (by decide) rfl ?_
    refine G.aload_n X 24 dX5_why_23 rfl rfl ?_
    refine G.aload_n X 25 dX5_why_24 rfl rfl ?_
    refine G.getR X fl_X5_10 28 dX5_why_25 rfl (hX).1 (ShX.r0 hX) ?_
    refine G.getI X fl_X5_125 31 dX5_why_28 rfl ((ShX.now hX)).1 (((ShX.now hX)).2.1 0 (by decide)) ?_
    refine G.vI1 (d := 0) X ml_X5_243 yv_X0_isOpenIn 34 dX5_why_31 rfl (c_X0_isOpenIn l D Bs _ kd rf _ _ _ (ShSt.c (ShX.now hX) (by omega)) (by omega) (by omega) (by omega)) ⟨_, _, (ShSt.c (ShX.now hX) (by omega)).1, rfl, rfl⟩ (by decide) ⟨Nat.zero_le _, Nat.zero_le _⟩ (Nat.le_of_ble_eq_true rfl) (fun r31 M31 h31 => ?_)
    obtain ⟨hr31, hm31⟩ := h31
    subst hr31
    obtain rfl := hm31.symm
    refine G.ifb_eq X 48 37 dX5_why_34 (by decide) rfl (fun hc34 => ?_) (fun hc34 => ?_)
    · refine G.bipush X 50 dX5_why_48 rfl (by decide) ?_
      refine G.iret X dX5_why_50 ⟨Nat.le_refl _, Nat.le_refl _⟩ ⟨rfl, rfl, rfl, _, rfl, ?_⟩
      refine ⟨?_, rfl⟩
      unfold whyF
      simp only [Int.toNat_natCast]
      rw [if_neg (by omega)]
      first
        | (rw [if_neg (by omega)]; done)
        | (rw [if_pos (by omega)]; done)
    · refine G.aload_n X 38 dX5_why_37 rfl rfl ?_
      refine G.getR X fl_X5_10 41 dX5_why_38 rfl (hX).1 (ShX.r0 hX) ?_
      refine G.aload_n X 42 dX5_why_41 rfl rfl ?_
      refine G.vI1 (d := 2) X ml_X5_246 yv_X4_causeFor 45 dX5_why_42 rfl (c_X4_causeFor l D Bs _ kd rf _ (a + 1) j r ((ShX.now hX)) hVk hM (by omega)) ⟨_, _, ((ShX.now hX)).1, rfl, rfl⟩ (by decide) ⟨Nat.zero_le _, Nat.zero_le _⟩ (Nat.le_of_ble_eq_true rfl) (fun r42 M42 h42 => ?_)
      obtain ⟨hr42, hm42⟩ := h42
      subst hr42
      obtain rfl := hm42.symm
      refine G.goto X 50 dX5_why_45 (by decide) ?_
      refine G.iret X dX5_why_50 ⟨Nat.le_refl _, Nat.le_refl _⟩ ⟨rfl, rfl, rfl, _, rfl, ?_⟩
      refine ⟨?_, rfl⟩
      unfold whyF
      simp only [Int.toNat_natCast]
      rw [if_neg (by omega)]
      first
        | (rw [if_neg (by omega)]; done)
        | (rw [if_pos (by omega)]; done)
  · refine G.iconst X 12 dX5_why_11 rfl ?_
    refine G.iret X dX5_why_12 ⟨Nat.le_refl _, Nat.le_refl _⟩ ⟨rfl, rfl, rfl, _, rfl, ?_⟩
    refine ⟨?_, rfl⟩
    unfold whyF
    rw [if_pos (by omega)]
set_option maxHeartbeats 1000000 in
set_option maxRecDepth 100000 in
theorem c_X5_needy (l : Launch) (D : xD) (Bs sz : Nat) (kd : xKd) (rf : xRf) (M : xM) (a : Nat) (r : xR) (h : List xR) (sn : Option xR) (t : List Int) (x : Int) (hX : ShX kd rf a) (hV : Vr r) (hB : CB h sn) (hC : CSt M a r h sn t) (rx : IR x) : CtI l D Bs yX5_needy cX5_needy 3 (some .int) 6 [.ref a, vi x] sz kd rf M (fun q M' => q = nthF (needL r) x ∧ CSt M' a r h sn t ∧ Off M M' a 215) := by
  refine Ctr.of (yv_X5_needy.1.2.2.2.2) (List.forall_mem_cons.mpr ⟨rfl, List.forall_mem_cons.mpr ⟨rfl, fun _ h => absurd h List.not_mem_nil⟩⟩) (Nat.le_of_ble_eq_true rfl) [some (.ref a), some (vi x), none] rfl ?_
  intro p e s m args below meth c X hin
  obtain ⟨hM, ⟨o, hho⟩, hsnf, hsn, htx⟩ := id hC
  have hVk := hV.k
  obtain ⟨n6, n6b⟩ := hV.1.n6
  obtain ⟨n7, n7b⟩ := hV.1.n7
  obtain ⟨hv0, hv1, hv2, hv3, hv6, hv7⟩ := hV.1.1
  obtain ⟨hb0, hb1, hb2, hb3, -, -, -, hb7, hb8⟩ := hM.1
  have hlen : (needL r).length ≤ 12 := by
    unfold needL
    have h1 := sortK_len (nk r) (openB r) (nC r)
    have h2 := cntN_le (openB r) (nC r)
    omega
  refine G.iload_n X 1 dX5_needy_0 rfl rfl ?_
  refine G.if_ge X 7 4 dX5_needy_1 (by decide) rfl (by omega) (fun hc1 => ?_) (fun hc1 => ?_)
  · refine G.aload_n X 8 dX5_needy_7 rfl rfl ?_
    refine G.getR X fl_X5_10 11 dX5_needy_8 rfl (hX).1 (ShX.r0 hX) ?_
    refine G.aload_n X 12 dX5_needy_11 rfl rfl ?_
    refine G.getR X fl_X5_40 15 dX5_needy_12 rfl (hX).1 (ShX.r6 hX) ?_
    refine G.vI1 (d := 5) X ml_X5_148 yv_X4_listOpen 18 dX5_needy_15 rfl (c_X4_listOpen l D Bs _ kd rf _ (a + 1) (a + 214) r ((ShX.now hX)) hVk hM (ShX.order hX) (by omega)) ⟨_, _, ((ShX.now hX)).1, rfl, rfl⟩ (by decide) ⟨Nat.zero_le _, Nat.zero_le _⟩ (Nat.le_of_ble_eq_true rfl) (fun r15 M15 h15 => ?_)
    obtain ⟨hr15, hq15, ho15⟩ := h15
    subst hr15
    have hC2 := hC.scr hV.1.bn hB (fun x _ _ _ => ho15 x (by omega)) (by rw [ho15 _ (by omega)]) (ho15 _ (by omega))
    have hO2 : Off M M15 a 215 := fun x hx => ho15 x (by omega)
    refine G.istore_n (ls' := [_, _, _]) X 19 dX5_needy_18 rfl (by decide) rfl ?_
    refine G.iload_n X 20 dX5_needy_19 rfl rfl ?_
    refine G.iload_n X 21 dX5_needy_20 rfl rfl ?_
    refine G.icmp_ge X 33 24 dX5_needy_21 (by decide) rfl (by omega) (by omega) (fun hc21 => ?_) (fun hc21 => ?_)
    · refine G.bipush X 35 dX5_needy_33 rfl (by decide) ?_
      refine G.iret X dX5_needy_35 ⟨Nat.le_refl _, Nat.le_refl _⟩ ⟨rfl, rfl, rfl, _, rfl, ?_⟩
      unfold nthF
      first
        | (simp only [Int.toNat_natCast]; rw [if_neg (by omega), if_pos (by omega)]; exact ⟨rfl, hC2, hO2⟩)
        | (rw [if_neg (by omega), if_neg (by omega)]; exact ⟨rfl, hC2, hO2⟩)
    · refine G.aload_n X 25 dX5_needy_24 rfl rfl ?_
      refine G.getR X fl_X5_40 28 dX5_needy_25 rfl (hX).1 (ShX.r6 hX) ?_
      refine G.iload_n X 29 dX5_needy_28 rfl rfl ?_
      obtain ⟨u, rfl⟩ : ∃ u : Nat, x = (u : Int) := ⟨x.toNat, by omega⟩
      refine G.iald X (i := u) 30 dX5_needy_29 rfl ((ShX.order hX)).1 (((ShX.order hX)).2 _) rfl (by omega) (by decide) ?_
      rw [hq15 u (by omega)]
      refine G.goto X 35 dX5_needy_30 (by decide) ?_
      refine G.iret X dX5_needy_35 ⟨Nat.le_refl _, Nat.le_refl _⟩ ⟨rfl, rfl, rfl, _, rfl, ?_⟩
      unfold nthF
      first
        | (simp only [Int.toNat_natCast]; rw [if_neg (by omega), if_pos (by omega)]; exact ⟨rfl, hC2, hO2⟩)
        | (rw [if_neg (by omega), if_neg (by omega)]; exact ⟨rfl, hC2, hO2⟩)
  · refine G.bipush X 6 dX5_needy_4 rfl (by decide) ?_
    refine G.iret X dX5_needy_6 ⟨Nat.le_refl _, Nat.le_refl _⟩ ⟨rfl, rfl, rfl, _, rfl, ?_⟩
    unfold nthF
    rw [if_pos (by omega)]
    exact ⟨rfl, hC, Off.rf⟩
set_option maxHeartbeats 1000000 in
set_option maxRecDepth 100000 in
theorem c_X5_thirsty (l : Launch) (D : xD) (Bs sz : Nat) (kd : xKd) (rf : xRf) (M : xM) (a : Nat) (r : xR) (h : List xR) (sn : Option xR) (t : List Int) (x : Int) (hX : ShX kd rf a) (hV : Vr r) (hB : CB h sn) (hC : CSt M a r h sn t) (rx : IR x) : CtI l D Bs yX5_thirsty cX5_thirsty 3 (some .int) 6 [.ref a, vi x] sz kd rf M (fun q M' => q = nthF (thirL r) x ∧ CSt M' a r h sn t ∧ Off M M' a 215) := by
  refine Ctr.of (yv_X5_thirsty.1.2.2.2.2) (List.forall_mem_cons.mpr ⟨rfl, List.forall_mem_cons.mpr ⟨rfl, fun _ h => absurd h List.not_mem_nil⟩⟩) (Nat.le_of_ble_eq_true rfl) [some (.ref a), some (vi x), none] rfl ?_
  intro p e s m args below meth c X hin
  obtain ⟨hM, ⟨o, hho⟩, hsnf, hsn, htx⟩ := id hC
  have hVk := hV.k
  obtain ⟨n6, n6b⟩ := hV.1.n6
  obtain ⟨n7, n7b⟩ := hV.1.n7
  obtain ⟨hv0, hv1, hv2, hv3, hv6, hv7⟩ := hV.1.1
  obtain ⟨hb0, hb1, hb2, hb3, -, -, -, hb7, hb8⟩ := hM.1
  have hlen : (thirL r).length ≤ 12 := by
    unfold thirL
    have h1 := sortK_len (tk r) (hasB r) (nC r)
    have h2 := cntN_le (hasB r) (nC r)
    omega
  refine G.iload_n X 1 dX5_thirsty_0 rfl rfl ?_
  refine G.if_ge X 7 4 dX5_thirsty_1 (by decide) rfl (by omega) (fun hc1 => ?_) (fun hc1 => ?_)
  · refine G.aload_n X 8 dX5_thirsty_7 rfl rfl ?_
    refine G.getR X fl_X5_10 11 dX5_thirsty_8 rfl (hX).1 (ShX.r0 hX) ?_
    refine G.aload_n X 12 dX5_thirsty_11 rfl rfl ?_
    refine G.getR X fl_X5_40 15 dX5_thirsty_12 rfl (hX).1 (ShX.r6 hX) ?_
    refine G.vI1 (d := 5) X ml_X5_161 yv_X4_listSupplied 18 dX5_thirsty_15 rfl (c_X4_listSupplied l D Bs _ kd rf _ (a + 1) (a + 214) r ((ShX.now hX)) hVk hM (ShX.order hX) (by omega)) ⟨_, _, ((ShX.now hX)).1, rfl, rfl⟩ (by decide) ⟨Nat.zero_le _, Nat.zero_le _⟩ (Nat.le_of_ble_eq_true rfl) (fun r15 M15 h15 => ?_)
    obtain ⟨hr15, hq15, ho15⟩ := h15
    subst hr15
    have hC2 := hC.scr hV.1.bn hB (fun x _ _ _ => ho15 x (by omega)) (by rw [ho15 _ (by omega)]) (ho15 _ (by omega))
    have hO2 : Off M M15 a 215 := fun x hx => ho15 x (by omega)
    refine G.istore_n (ls' := [_, _, _]) X 19 dX5_thirsty_18 rfl (by decide) rfl ?_
    refine G.iload_n X 20 dX5_thirsty_19 rfl rfl ?_
    refine G.iload_n X 21 dX5_thirsty_20 rfl rfl ?_
    refine G.icmp_ge X 33 24 dX5_thirsty_21 (by decide) rfl (by omega) (by omega) (fun hc21 => ?_) (fun hc21 => ?_)
    · refine G.bipush X 35 dX5_thirsty_33 rfl (by decide) ?_
      refine G.iret X dX5_thirsty_35 ⟨Nat.le_refl _, Nat.le_refl _⟩ ⟨rfl, rfl, rfl, _, rfl, ?_⟩
      unfold nthF
      first
        | (simp only [Int.toNat_natCast]; rw [if_neg (by omega), if_pos (by omega)]; exact ⟨rfl, hC2, hO2⟩)
        | (rw [if_neg (by omega), if_neg (by omega)]; exact ⟨rfl, hC2, hO2⟩)
    · refine G.aload_n X 25 dX5_thirsty_24 rfl rfl ?_
      refine G.getR X fl_X5_40 28 dX5_thirsty_25 rfl (hX).1 (ShX.r6 hX) ?_
      refine G.iload_n X 29 dX5_thirsty_28 rfl rfl ?_
      obtain ⟨u, rfl⟩ : ∃ u : Nat, x = (u : Int) := ⟨x.toNat, by omega⟩
      refine G.iald X (i := u) 30 dX5_thirsty_29 rfl ((ShX.order hX)).1 (((ShX.order hX)).2 _) rfl (by omega) (by decide) ?_
      rw [hq15 u (by omega)]
      refine G.goto X 35 dX5_thirsty_30 (by decide) ?_
      refine G.iret X dX5_thirsty_35 ⟨Nat.le_refl _, Nat.le_refl _⟩ ⟨rfl, rfl, rfl, _, rfl, ?_⟩
      unfold nthF
      first
        | (simp only [Int.toNat_natCast]; rw [if_neg (by omega), if_pos (by omega)]; exact ⟨rfl, hC2, hO2⟩)
        | (rw [if_neg (by omega), if_neg (by omega)]; exact ⟨rfl, hC2, hO2⟩)
  · refine G.bipush X 6 dX5_thirsty_4 rfl (by decide) ?_
    refine G.iret X dX5_thirsty_6 ⟨Nat.le_refl _, Nat.le_refl _⟩ ⟨rfl, rfl, rfl, _, rfl, ?_⟩
    unfold nthF
    rw [if_pos (by omega)]
    exact ⟨rfl, hC, Off.rf⟩
set_option maxHeartbeats 1000000 in
set_option maxRecDepth 100000 in
theorem c_X5_forecast (l : Launch) (D : xD) (Bs sz : Nat) (kd : xKd) (rf : xRf) (M : xM) (a : Nat) (r : xR) (h : List xR) (sn : Option xR) (t : List Int) (x y : Int) (hX : ShX kd rf a) (hV : Vr r) (hB : CB h sn) (hC : CSt M a r h sn t) (rx : IR x) (ry : IR y) : CtI l D Bs yX5_forecast cX5_forecast 3 (some .int) 6 [.ref a, vi x, vi y] sz kd rf M (fun q M' => q = foreF x y r ∧ CSt M' a r h sn t ∧ Off M M' a 215) := by
  refine Ctr.of (yv_X5_forecast.1.2.2.2.2) (List.forall_mem_cons.mpr ⟨rfl, List.forall_mem_cons.mpr ⟨rfl, List.forall_mem_cons.mpr ⟨rfl, fun _ h => absurd h List.not_mem_nil⟩⟩⟩) (Nat.le_of_ble_eq_true rfl) [some (.ref a), some (vi x), some (vi y)] rfl ?_
  intro p e s m args below meth c X hin
  obtain ⟨hM, ⟨o, hho⟩, hsnf, hsn, htx⟩ := id hC
  have hVk := hV.k
  obtain ⟨n6, n6b⟩ := hV.1.n6
  obtain ⟨n7, n7b⟩ := hV.1.n7
  obtain ⟨hv0, hv1, hv2, hv3, hv6, hv7⟩ := hV.1.1
  obtain ⟨hb0, hb1, hb2, hb3, -, -, -, hb7, hb8⟩ := hM.1
  refine G.iload_n X 1 dX5_forecast_0 rfl rfl ?_
  refine G.iconst X 2 dX5_forecast_1 rfl ?_
  refine G.bipush X 4 dX5_forecast_2 rfl (by decide) ?_
  refine G.sI3 (d := 0) X ml_X5_44 ys_X5_isWithin 7 dX5_forecast_4 rfl (c_X5_isWithin l D Bs _ kd rf _ _ _ _ (by omega) (by omega) (by omega)) (by decide) ⟨Nat.zero_le _, Nat.zero_le _⟩ (Nat.le_of_ble_eq_true rfl) (fun r4 M4 h4 => ?_)
  obtain ⟨hr4, hm4⟩ := h4
  subst hr4
  obtain rfl := hm4.symm
  refine G.ifb_eq X 19 10 dX5_forecast_7 (by decide) rfl (fun hc7 => ?_) (fun hc7 => ?_)
  · refine G.bipush X 21 dX5_forecast_19 rfl (by decide) ?_
    refine G.iret X dX5_forecast_21 ⟨Nat.le_refl _, Nat.le_refl _⟩ ⟨rfl, rfl, rfl, _, rfl, ?_⟩
    unfold foreF
    rw [if_pos (by omega)]
    exact ⟨rfl, hC, Off.rf⟩
  · refine G.iload_n X 11 dX5_forecast_10 rfl rfl ?_
    refine G.iconst X 12 dX5_forecast_11 rfl ?_
    refine G.iconst X 13 dX5_forecast_12 rfl ?_
    refine G.sI3 (d := 0) X ml_X5_44 ys_X5_isWithin 16 dX5_forecast_13 rfl (c_X5_isWithin l D Bs _ kd rf _ _ _ _ (by omega) (by omega) (by omega)) (by decide) ⟨Nat.zero_le _, Nat.zero_le _⟩ (Nat.le_of_ble_eq_true rfl) (fun r13 M13 h13 => ?_)
    obtain ⟨hr13, hm13⟩ := h13
    subst hr13
    obtain rfl := hm13.symm
    refine G.ifb_ne X 22 19 dX5_forecast_16 (by decide) rfl (fun hc16 => ?_) (fun hc16 => ?_)
    · obtain ⟨i, rfl⟩ : ∃ i : Nat, x = (i : Int) := ⟨x.toNat, by omega⟩
      refine G.aload_n X 23 dX5_forecast_22 rfl rfl ?_
      refine G.getR X fl_X5_10 26 dX5_forecast_23 rfl (hX).1 (ShX.r0 hX) ?_
      refine G.getI X fl_X5_125 29 dX5_forecast_26 rfl ((ShX.now hX)).1 (((ShX.now hX)).2.1 0 (by decide)) ?_
      refine G.iload_n X 30 dX5_forecast_29 rfl rfl ?_
      refine G.iadd X 31 dX5_forecast_30 rfl ?_
      refine G.sipush X 34 dX5_forecast_31 rfl (by decide) ?_
      refine G.icmp_le X 40 37 dX5_forecast_34 (by decide) rfl (by omega) (by omega) (fun hc34 => ?_) (fun hc34 => ?_)
      · refine G.aload_n X 41 dX5_forecast_40 rfl rfl ?_
        refine G.getR X fl_X5_16 44 dX5_forecast_41 rfl (hX).1 (ShX.r1 hX) ?_
        refine G.aload_n X 45 dX5_forecast_44 rfl rfl ?_
        refine G.getR X fl_X5_10 48 dX5_forecast_45 rfl (hX).1 (ShX.r0 hX) ?_
        refine G.vV1 (d := 1) X ml_X5_207 yv_X4_copyFrom 51 dX5_forecast_48 rfl (c_X4_copyFrom l D Bs _ kd rf _ (a + 26) (a + 1) r ((ShX.ahead hX)) ((ShX.now hX)) hVk hM (by omega)) ⟨_, _, ((ShX.ahead hX)).1, rfl, rfl⟩ (by decide) ⟨Nat.zero_le _, Nat.zero_le _⟩ (Nat.le_of_ble_eq_true rfl) (fun M48 h48 => ?_)
        refine G.aload_n X 52 dX5_forecast_51 rfl rfl ?_
        refine G.getR X fl_X5_16 55 dX5_forecast_52 rfl (hX).1 (ShX.r1 hX) ?_
        refine G.iload_n X 56 dX5_forecast_55 rfl rfl ?_
        refine G.vV1 (d := 5) X ml_X5_171 yv_X4_passHours 59 dX5_forecast_56 rfl (c_X4_passHours l D Bs _ kd rf _ (a + 26) i r ((ShX.ahead hX)) hV h48.1 (by omega)) ⟨_, _, ((ShX.ahead hX)).1, rfl, rfl⟩ (by decide) ⟨Nat.zero_le _, Nat.zero_le _⟩ (Nat.le_of_ble_eq_true rfl) (fun M56 h56 => ?_)
        have hV3 := hV.hours i (by omega)
        obtain ⟨e6, e7, -⟩ := hoursR_n r i
        have hC3 := hC.scr hV.1.bn hB (fun x _ _ _ => (h56.2 x (by omega)).trans (h48.2 x (by omega))) (by rw [h56.2 _ (by omega), h48.2 _ (by omega)]) ((h56.2 _ (by omega)).trans (h48.2 _ (by omega)))
        have hO3 : Off M M56 a 215 := fun x hx => (h56.2 x (by omega)).trans (h48.2 x (by omega))
        have hM3 := hC3.1
        have s3 := hV3.2
        have s0 := hV.2
        obtain ⟨s38, s39, s310⟩ := s3
        obtain ⟨s08, s09, s010⟩ := s0
        refine G.iload_n X 60 dX5_forecast_59 rfl rfl ?_
        by_cases hsw : 0 ≤ y ∧ y ≤ 2
        · have hsw2 : y = 0 ∨ y = 1 ∨ y = 2 := by omega
          rcases hsw2 with hsw2 | hsw2 | hsw2
          · subst hsw2
            refine G.tableIn X 88 dX5_forecast_60 (by omega) (by omega) (by omega) (by rfl) (by decide) ?_
            refine G.aload_n X 89 dX5_forecast_88 rfl rfl ?_
            refine G.getR X fl_X5_16 92 dX5_forecast_89 rfl (hX).1 (ShX.r1 hX) ?_
            refine G.vI0 (d := 0) X ml_X5_168 yv_X4_litTotal 95 dX5_forecast_92 rfl (c_X4_litTotal l D Bs _ kd rf _ (a + 26) _ ((ShX.ahead hX)) hV3.k h56.1) ⟨_, _, ((ShX.ahead hX)).1, rfl, rfl⟩ (by decide) ⟨Nat.zero_le _, Nat.zero_le _⟩ (Nat.le_of_ble_eq_true rfl) (fun r92 M92 h92 => ?_)
            obtain ⟨hr92, hm92⟩ := h92
            subst hr92
            obtain rfl := hm92.symm
            refine G.aload_n X 96 dX5_forecast_95 rfl rfl ?_
            refine G.getR X fl_X5_10 99 dX5_forecast_96 rfl (hX).1 (ShX.r0 hX) ?_
            refine G.vI0 (d := 0) X ml_X5_168 yv_X4_litTotal 102 dX5_forecast_99 rfl (c_X4_litTotal l D Bs _ kd rf _ (a + 1) r ((ShX.now hX)) hVk hM3) ⟨_, _, ((ShX.now hX)).1, rfl, rfl⟩ (by decide) ⟨Nat.zero_le _, Nat.zero_le _⟩ (Nat.le_of_ble_eq_true rfl) (fun r99 M99 h99 => ?_)
            obtain ⟨hr99, hm99⟩ := h99
            subst hr99
            obtain rfl := hm99.symm
            refine G.isub X 103 dX5_forecast_102 rfl ?_
            refine G.iret X dX5_forecast_103 ⟨Nat.le_refl _, Nat.le_refl _⟩ ⟨rfl, rfl, rfl, _, rfl, ?_⟩
            rw [← s38, ← s08]
            refine ⟨?_, hC3, hO3⟩
            unfold foreF
            rw [if_neg (by omega), if_neg (by omega), if_pos rfl]
            try simp only [Int.toNat_natCast]
          · subst hsw2
            refine G.tableIn X 104 dX5_forecast_60 (by omega) (by omega) (by omega) (by rfl) (by decide) ?_
            refine G.aload_n X 105 dX5_forecast_104 rfl rfl ?_
            refine G.getR X fl_X5_16 108 dX5_forecast_105 rfl (hX).1 (ShX.r1 hX) ?_
            refine G.vI0 (d := 0) X ml_X5_250 yv_X4_darkTotal 111 dX5_forecast_108 rfl (c_X4_darkTotal l D Bs _ kd rf _ (a + 26) _ ((ShX.ahead hX)) hV3.k h56.1) ⟨_, _, ((ShX.ahead hX)).1, rfl, rfl⟩ (by decide) ⟨Nat.zero_le _, Nat.zero_le _⟩ (Nat.le_of_ble_eq_true rfl) (fun r108 M108 h108 => ?_)
            obtain ⟨hr108, hm108⟩ := h108
            subst hr108
            obtain rfl := hm108.symm
            refine G.aload_n X 112 dX5_forecast_111 rfl rfl ?_
            refine G.getR X fl_X5_10 115 dX5_forecast_112 rfl (hX).1 (ShX.r0 hX) ?_
            refine G.vI0 (d := 0) X ml_X5_250 yv_X4_darkTotal 118 dX5_forecast_115 rfl (c_X4_darkTotal l D Bs _ kd rf _ (a + 1) r ((ShX.now hX)) hVk hM3) ⟨_, _, ((ShX.now hX)).1, rfl, rfl⟩ (by decide) ⟨Nat.zero_le _, Nat.zero_le _⟩ (Nat.le_of_ble_eq_true rfl) (fun r115 M115 h115 => ?_)
            obtain ⟨hr115, hm115⟩ := h115
            subst hr115
            obtain rfl := hm115.symm
            refine G.isub X 119 dX5_forecast_118 rfl ?_
            refine G.iret X dX5_forecast_119 ⟨Nat.le_refl _, Nat.le_refl _⟩ ⟨rfl, rfl, rfl, _, rfl, ?_⟩
            rw [← s39, ← s09]
            refine ⟨?_, hC3, hO3⟩
            unfold foreF
            rw [if_neg (by omega), if_neg (by omega), if_neg (by decide), if_pos rfl]
            try simp only [Int.toNat_natCast]
          · subst hsw2
            refine G.tableIn X 120 dX5_forecast_60 (by omega) (by omega) (by omega) (by rfl) (by decide) ?_
            refine G.aload_n X 121 dX5_forecast_120 rfl rfl ?_
            refine G.getR X fl_X5_16 124 dX5_forecast_121 rfl (hX).1 (ShX.r1 hX) ?_
            refine G.getf (v := vi (hoursR r i 4)) X fl_X5_253 127 dX5_forecast_124 rfl ((ShX.ahead hX)).1 ((xV_int (((ShX.ahead hX)).2.1 4 (by decide))).trans (congrArg vi ?_)) ?_
            · exact h56.1.1.2.2.2.2.1
            refine G.aload_n X 128 dX5_forecast_127 rfl rfl ?_
            refine G.getR X fl_X5_10 131 dX5_forecast_128 rfl (hX).1 (ShX.r0 hX) ?_
            refine G.getf (v := vi (r 4)) X fl_X5_253 134 dX5_forecast_131 rfl ((ShX.now hX)).1 ((xV_int (((ShX.now hX)).2.1 4 (by decide))).trans (congrArg vi ?_)) ?_
            · exact hM3.1.2.2.2.2.1
            refine G.isub X 135 dX5_forecast_134 rfl ?_
            refine G.iret X dX5_forecast_135 ⟨Nat.le_refl _, Nat.le_refl _⟩ ⟨rfl, rfl, rfl, _, rfl, ?_⟩
            refine ⟨?_, hC3, hO3⟩
            unfold foreF
            rw [if_neg (by omega), if_neg (by omega), if_neg (by decide), if_neg (by decide), if_pos rfl]
            try simp only [Int.toNat_natCast]
        · refine G.tableOut X 136 dX5_forecast_60 (by omega) (by omega) (by decide) ?_
          refine G.aload_n X 137 dX5_forecast_136 rfl rfl ?_
          refine G.getR X fl_X5_16 140 dX5_forecast_137 rfl (hX).1 (ShX.r1 hX) ?_
          refine G.aload_n X 141 dX5_forecast_140 rfl rfl ?_
          refine G.getR X fl_X5_10 144 dX5_forecast_141 rfl (hX).1 (ShX.r0 hX) ?_
          refine G.vI1 (d := 0) X ml_X5_256 yv_X4_darkestSince 147 dX5_forecast_144 rfl (c_X4_darkestSince l D Bs _ kd rf _ (a + 26) (a + 1) (hoursR r i) r ((ShX.ahead hX)) ((ShX.now hX)) hV3.k h56.1 hVk hM3 e7) ⟨_, _, ((ShX.ahead hX)).1, rfl, rfl⟩ (by decide) ⟨Nat.zero_le _, Nat.zero_le _⟩ (Nat.le_of_ble_eq_true rfl) (fun r144 M144 h144 => ?_)
          obtain ⟨hr144, hm144⟩ := h144
          subst hr144
          obtain rfl := hm144.symm
          refine G.iret X dX5_forecast_147 ⟨Nat.le_refl _, Nat.le_refl _⟩ ⟨rfl, rfl, rfl, _, rfl, ?_⟩
          refine ⟨?_, hC3, hO3⟩
          unfold foreF
          rw [if_neg (by omega), if_neg (by omega), if_neg (by omega), if_neg (by omega), if_neg (by omega)]
          try simp only [Int.toNat_natCast]
      · refine G.bipush X 39 dX5_forecast_37 rfl (by decide) ?_
        refine G.iret X dX5_forecast_39 ⟨Nat.le_refl _, Nat.le_refl _⟩ ⟨rfl, rfl, rfl, _, rfl, ?_⟩
        unfold foreF
        rw [if_neg (by omega), if_pos (by omega)]
        exact ⟨rfl, hC, Off.rf⟩
    · refine G.bipush X 21 dX5_forecast_19 rfl (by decide) ?_
      refine G.iret X dX5_forecast_21 ⟨Nat.le_refl _, Nat.le_refl _⟩ ⟨rfl, rfl, rfl, _, rfl, ?_⟩
      unfold foreF
      rw [if_pos (by omega)]
      exact ⟨rfl, hC, Off.rf⟩
set_option maxHeartbeats 1000000 in
set_option maxRecDepth 100000 in
theorem c_X5_count (l : Launch) (D : xD) (Bs sz : Nat) (kd : xKd) (rf : xRf) (M : xM) (a : Nat) (r : xR) (h : List xR) (sn : Option xR) (t : List Int) (y : Int) (hX : ShX kd rf a) (hV : Vr r) (hB : CB h sn) (hC : CSt M a r h sn t) (ry : IR y) : CtI l D Bs yX5_count cX5_count 2 (some .int) 6 [.ref a, vi y] sz kd rf M (fun q M' => q = cntF y r (h.length : Int) (t.length : Int) ∧ CSt M' a r h sn t ∧ Off M M' a 215) := by
  refine Ctr.of (yv_X5_count.1.2.2.2.2) (List.forall_mem_cons.mpr ⟨rfl, List.forall_mem_cons.mpr ⟨rfl, fun _ h => absurd h List.not_mem_nil⟩⟩) (Nat.le_of_ble_eq_true rfl) [some (.ref a), some (vi y)] rfl ?_
  intro p e s m args below meth c X hin
  obtain ⟨hM, ⟨o, hho⟩, hsnf, hsn, htx⟩ := id hC
  have hVk := hV.k
  obtain ⟨n6, n6b⟩ := hV.1.n6
  obtain ⟨n7, n7b⟩ := hV.1.n7
  obtain ⟨hv0, hv1, hv2, hv3, hv6, hv7⟩ := hV.1.1
  obtain ⟨hb0, hb1, hb2, hb3, hb4, hb5, hb6, hb7, hb8⟩ := hM.1
  obtain ⟨s08, s09, s010⟩ := hV.2
  have hho2 := hho.1.2.2.1
  have htx1 := htx.1.1
  refine G.iload_n X 1 dX5_count_0 rfl rfl ?_
  by_cases hsw : 0 ≤ y ∧ y ≤ 16
  · have hsw2 : y = 0 ∨ y = 1 ∨ y = 2 ∨ y = 3 ∨ y = 4 ∨ y = 5 ∨ y = 6 ∨ y = 7 ∨ y = 8 ∨ y = 9 ∨ y = 10 ∨ y = 11 ∨ y = 12 ∨ y = 13 ∨ y = 14 ∨ y = 15 ∨ y = 16 := by omega
    rcases hsw2 with hsw2 | hsw2 | hsw2 | hsw2 | hsw2 | hsw2 | hsw2 | hsw2 | hsw2 | hsw2 | hsw2 | hsw2 | hsw2 | hsw2 | hsw2 | hsw2 | hsw2
    · subst hsw2
      refine G.tableIn X 84 dX5_count_1 (by omega) (by omega) (by omega) (by rfl) (by decide) ?_
      refine G.aload_n X 85 dX5_count_84 rfl rfl ?_
      refine G.getR X fl_X5_10 88 dX5_count_85 rfl (hX).1 (ShX.r0 hX) ?_
      refine G.getI X fl_X5_125 91 dX5_count_88 rfl ((ShX.now hX)).1 (((ShX.now hX)).2.1 0 (by decide)) ?_
      refine G.iret X dX5_count_91 ⟨Nat.le_refl _, Nat.le_refl _⟩ ⟨rfl, rfl, rfl, _, rfl, ?_⟩
      refine ⟨?_, hC, Off.rf⟩
      unfold cntF
      rw [if_pos rfl]
      exact hb0
    · subst hsw2
      refine G.tableIn X 92 dX5_count_1 (by omega) (by omega) (by omega) (by rfl) (by decide) ?_
      refine G.aload_n X 93 dX5_count_92 rfl rfl ?_
      refine G.getR X fl_X5_10 96 dX5_count_93 rfl (hX).1 (ShX.r0 hX) ?_
      refine G.getI X fl_X5_60 99 dX5_count_96 rfl ((ShX.now hX)).1 (((ShX.now hX)).2.1 1 (by decide)) ?_
      refine G.bipush X 101 dX5_count_99 rfl (by decide) ?_
      refine G.iadd X 102 dX5_count_101 rfl ?_
      refine G.iret X dX5_count_102 ⟨Nat.le_refl _, Nat.le_refl _⟩ ⟨rfl, rfl, rfl, _, rfl, ?_⟩
      refine ⟨?_, hC, Off.rf⟩
      unfold cntF
      rw [if_neg (by decide), if_pos rfl]
      rw [hb1]
    · subst hsw2
      refine G.tableIn X 103 dX5_count_1 (by omega) (by omega) (by omega) (by rfl) (by decide) ?_
      refine G.aload_n X 104 dX5_count_103 rfl rfl ?_
      refine G.getR X fl_X5_10 107 dX5_count_104 rfl (hX).1 (ShX.r0 hX) ?_
      refine G.getI X fl_X5_69 110 dX5_count_107 rfl ((ShX.now hX)).1 (((ShX.now hX)).2.1 2 (by decide)) ?_
      refine G.iret X dX5_count_110 ⟨Nat.le_refl _, Nat.le_refl _⟩ ⟨rfl, rfl, rfl, _, rfl, ?_⟩
      refine ⟨?_, hC, Off.rf⟩
      unfold cntF
      rw [if_neg (by decide), if_neg (by decide), if_pos rfl]
      exact hb2
    · subst hsw2
      refine G.tableIn X 111 dX5_count_1 (by omega) (by omega) (by omega) (by rfl) (by decide) ?_
      refine G.aload_n X 112 dX5_count_111 rfl rfl ?_
      refine G.getR X fl_X5_10 115 dX5_count_112 rfl (hX).1 (ShX.r0 hX) ?_
      refine G.getI X fl_X5_48 118 dX5_count_115 rfl ((ShX.now hX)).1 (((ShX.now hX)).2.1 3 (by decide)) ?_
      refine G.iret X dX5_count_118 ⟨Nat.le_refl _, Nat.le_refl _⟩ ⟨rfl, rfl, rfl, _, rfl, ?_⟩
      refine ⟨?_, hC, Off.rf⟩
      unfold cntF
      rw [if_neg (by decide), if_neg (by decide), if_neg (by decide), if_pos rfl]
      exact hb3
    · subst hsw2
      refine G.tableIn X 119 dX5_count_1 (by omega) (by omega) (by omega) (by rfl) (by decide) ?_
      refine G.aload_n X 120 dX5_count_119 rfl rfl ?_
      refine G.getR X fl_X5_10 123 dX5_count_120 rfl (hX).1 (ShX.r0 hX) ?_
      refine G.vI0 (d := 0) X ml_X5_260 yv_X4_fuelInTanks 126 dX5_count_123 rfl (c_X4_fuelInTanks l D Bs _ kd rf _ (a + 1) r ((ShX.now hX)) hVk hM) ⟨_, _, ((ShX.now hX)).1, rfl, rfl⟩ (by decide) ⟨Nat.zero_le _, Nat.zero_le _⟩ (Nat.le_of_ble_eq_true rfl) (fun r123 M123 h123 => ?_)
      obtain ⟨hr123, hm123⟩ := h123
      subst hr123
      obtain rfl := hm123.symm
      refine G.iret X dX5_count_126 ⟨Nat.le_refl _, Nat.le_refl _⟩ ⟨rfl, rfl, rfl, _, rfl, ?_⟩
      refine ⟨?_, hC, Off.rf⟩
      unfold cntF
      rw [if_neg (by decide), if_neg (by decide), if_neg (by decide), if_neg (by decide), if_pos rfl]
    · subst hsw2
      refine G.tableIn X 127 dX5_count_1 (by omega) (by omega) (by omega) (by rfl) (by decide) ?_
      refine G.aload_n X 128 dX5_count_127 rfl rfl ?_
      refine G.getR X fl_X5_10 131 dX5_count_128 rfl (hX).1 (ShX.r0 hX) ?_
      refine G.getI X fl_X5_253 134 dX5_count_131 rfl ((ShX.now hX)).1 (((ShX.now hX)).2.1 4 (by decide)) ?_
      refine G.iret X dX5_count_134 ⟨Nat.le_refl _, Nat.le_refl _⟩ ⟨rfl, rfl, rfl, _, rfl, ?_⟩
      refine ⟨?_, hC, Off.rf⟩
      unfold cntF
      rw [if_neg (by decide), if_neg (by decide), if_neg (by decide), if_neg (by decide), if_neg (by decide), if_pos rfl]
      exact hb4
    · subst hsw2
      refine G.tableIn X 135 dX5_count_1 (by omega) (by omega) (by omega) (by rfl) (by decide) ?_
      refine G.aload_n X 136 dX5_count_135 rfl rfl ?_
      refine G.getR X fl_X5_10 139 dX5_count_136 rfl (hX).1 (ShX.r0 hX) ?_
      refine G.getI X fl_X5_57 142 dX5_count_139 rfl ((ShX.now hX)).1 (((ShX.now hX)).2.1 5 (by decide)) ?_
      refine G.iret X dX5_count_142 ⟨Nat.le_refl _, Nat.le_refl _⟩ ⟨rfl, rfl, rfl, _, rfl, ?_⟩
      refine ⟨?_, hC, Off.rf⟩
      unfold cntF
      rw [if_neg (by decide), if_neg (by decide), if_neg (by decide), if_neg (by decide), if_neg (by decide), if_neg (by decide), if_pos rfl]
      exact hb5
    · subst hsw2
      refine G.tableIn X 143 dX5_count_1 (by omega) (by omega) (by omega) (by rfl) (by decide) ?_
      refine G.aload_n X 144 dX5_count_143 rfl rfl ?_
      refine G.getR X fl_X5_10 147 dX5_count_144 rfl (hX).1 (ShX.r0 hX) ?_
      refine G.getI X fl_X5_72 150 dX5_count_147 rfl ((ShX.now hX)).1 (((ShX.now hX)).2.1 7 (by decide)) ?_
      refine G.iret X dX5_count_150 ⟨Nat.le_refl _, Nat.le_refl _⟩ ⟨rfl, rfl, rfl, _, rfl, ?_⟩
      refine ⟨?_, hC, Off.rf⟩
      unfold cntF
      rw [if_neg (by decide), if_neg (by decide), if_neg (by decide), if_neg (by decide), if_neg (by decide), if_neg (by decide), if_neg (by decide), if_pos rfl]
      exact hb7
    · subst hsw2
      refine G.tableIn X 151 dX5_count_1 (by omega) (by omega) (by omega) (by rfl) (by decide) ?_
      refine G.aload_n X 152 dX5_count_151 rfl rfl ?_
      refine G.getR X fl_X5_10 155 dX5_count_152 rfl (hX).1 (ShX.r0 hX) ?_
      refine G.vI0 (d := 0) X ml_X5_141 yv_X4_yardSize 158 dX5_count_155 rfl (c_X4_yardSize l D Bs _ kd rf _ (a + 1) r ((ShX.now hX)) hVk hM) ⟨_, _, ((ShX.now hX)).1, rfl, rfl⟩ (by decide) ⟨Nat.zero_le _, Nat.zero_le _⟩ (Nat.le_of_ble_eq_true rfl) (fun r155 M155 h155 => ?_)
      obtain ⟨hr155, hm155⟩ := h155
      subst hr155
      obtain rfl := hm155.symm
      refine G.iret X dX5_count_158 ⟨Nat.le_refl _, Nat.le_refl _⟩ ⟨rfl, rfl, rfl, _, rfl, ?_⟩
      refine ⟨?_, hC, Off.rf⟩
      unfold cntF
      rw [if_neg (by decide), if_neg (by decide), if_neg (by decide), if_neg (by decide), if_neg (by decide), if_neg (by decide), if_neg (by decide), if_neg (by decide), if_pos rfl]
    · subst hsw2
      refine G.tableIn X 159 dX5_count_1 (by omega) (by omega) (by omega) (by rfl) (by decide) ?_
      refine G.aload_n X 160 dX5_count_159 rfl rfl ?_
      refine G.getR X fl_X5_10 163 dX5_count_160 rfl (hX).1 (ShX.r0 hX) ?_
      refine G.getI X fl_X5_107 166 dX5_count_163 rfl ((ShX.now hX)).1 (((ShX.now hX)).2.1 8 (by decide)) ?_
      refine G.iret X dX5_count_166 ⟨Nat.le_refl _, Nat.le_refl _⟩ ⟨rfl, rfl, rfl, _, rfl, ?_⟩
      refine ⟨?_, hC, Off.rf⟩
      unfold cntF
      rw [if_neg (by decide), if_neg (by decide), if_neg (by decide), if_neg (by decide), if_neg (by decide), if_neg (by decide), if_neg (by decide), if_neg (by decide), if_neg (by decide), if_pos rfl]
      exact hb8
    · subst hsw2
      refine G.tableIn X 167 dX5_count_1 (by omega) (by omega) (by omega) (by rfl) (by decide) ?_
      refine G.aload_n X 168 dX5_count_167 rfl rfl ?_
      refine G.getR X fl_X5_10 171 dX5_count_168 rfl (hX).1 (ShX.r0 hX) ?_
      refine G.aload_n X 172 dX5_count_171 rfl rfl ?_
      refine G.getR X fl_X5_40 175 dX5_count_172 rfl (hX).1 (ShX.r6 hX) ?_
      refine G.vI1 (d := 5) X ml_X5_148 yv_X4_listOpen 178 dX5_count_175 rfl (c_X4_listOpen l D Bs _ kd rf _ (a + 1) (a + 214) r ((ShX.now hX)) hVk hM (ShX.order hX) (by omega)) ⟨_, _, ((ShX.now hX)).1, rfl, rfl⟩ (by decide) ⟨Nat.zero_le _, Nat.zero_le _⟩ (Nat.le_of_ble_eq_true rfl) (fun r175 M175 h175 => ?_)
      obtain ⟨hr175, hq175, ho175⟩ := h175
      subst hr175
      have hC2 := hC.scr hV.1.bn hB (fun x _ _ _ => ho175 x (by omega)) (by rw [ho175 _ (by omega)]) (ho175 _ (by omega))
      have hO2 : Off M M175 a 215 := fun x hx => ho175 x (by omega)
      refine G.iret X dX5_count_178 ⟨Nat.le_refl _, Nat.le_refl _⟩ ⟨rfl, rfl, rfl, _, rfl, ?_⟩
      refine ⟨?_, hC2, hO2⟩
      unfold cntF
      rw [if_neg (by decide), if_neg (by decide), if_neg (by decide), if_neg (by decide), if_neg (by decide), if_neg (by decide), if_neg (by decide), if_neg (by decide), if_neg (by decide), if_neg (by decide), if_pos rfl]
    · subst hsw2
      refine G.tableIn X 179 dX5_count_1 (by omega) (by omega) (by omega) (by rfl) (by decide) ?_
      refine G.aload_n X 180 dX5_count_179 rfl rfl ?_
      refine G.getR X fl_X5_10 183 dX5_count_180 rfl (hX).1 (ShX.r0 hX) ?_
      refine G.vI0 (d := 0) X ml_X5_168 yv_X4_litTotal 186 dX5_count_183 rfl (c_X4_litTotal l D Bs _ kd rf _ (a + 1) r ((ShX.now hX)) hVk hM) ⟨_, _, ((ShX.now hX)).1, rfl, rfl⟩ (by decide) ⟨Nat.zero_le _, Nat.zero_le _⟩ (Nat.le_of_ble_eq_true rfl) (fun r183 M183 h183 => ?_)
      obtain ⟨hr183, hm183⟩ := h183
      subst hr183
      obtain rfl := hm183.symm
      refine G.iret X dX5_count_186 ⟨Nat.le_refl _, Nat.le_refl _⟩ ⟨rfl, rfl, rfl, _, rfl, ?_⟩
      refine ⟨?_, hC, Off.rf⟩
      unfold cntF
      rw [if_neg (by decide), if_neg (by decide), if_neg (by decide), if_neg (by decide), if_neg (by decide), if_neg (by decide), if_neg (by decide), if_neg (by decide), if_neg (by decide), if_neg (by decide), if_neg (by decide), if_pos rfl]
      exact s08.symm
    · subst hsw2
      refine G.tableIn X 187 dX5_count_1 (by omega) (by omega) (by omega) (by rfl) (by decide) ?_
      refine G.aload_n X 188 dX5_count_187 rfl rfl ?_
      refine G.getR X fl_X5_10 191 dX5_count_188 rfl (hX).1 (ShX.r0 hX) ?_
      refine G.vI0 (d := 0) X ml_X5_250 yv_X4_darkTotal 194 dX5_count_191 rfl (c_X4_darkTotal l D Bs _ kd rf _ (a + 1) r ((ShX.now hX)) hVk hM) ⟨_, _, ((ShX.now hX)).1, rfl, rfl⟩ (by decide) ⟨Nat.zero_le _, Nat.zero_le _⟩ (Nat.le_of_ble_eq_true rfl) (fun r191 M191 h191 => ?_)
      obtain ⟨hr191, hm191⟩ := h191
      subst hr191
      obtain rfl := hm191.symm
      refine G.iret X dX5_count_194 ⟨Nat.le_refl _, Nat.le_refl _⟩ ⟨rfl, rfl, rfl, _, rfl, ?_⟩
      refine ⟨?_, hC, Off.rf⟩
      unfold cntF
      rw [if_neg (by decide), if_neg (by decide), if_neg (by decide), if_neg (by decide), if_neg (by decide), if_neg (by decide), if_neg (by decide), if_neg (by decide), if_neg (by decide), if_neg (by decide), if_neg (by decide), if_neg (by decide), if_pos rfl]
      exact s09.symm
    · subst hsw2
      refine G.tableIn X 195 dX5_count_1 (by omega) (by omega) (by omega) (by rfl) (by decide) ?_
      refine G.aload_n X 196 dX5_count_195 rfl rfl ?_
      refine G.getR X fl_X5_10 199 dX5_count_196 rfl (hX).1 (ShX.r0 hX) ?_
      refine G.vI0 (d := 0) X ml_X5_263 yv_X4_billTotal 202 dX5_count_199 rfl (c_X4_billTotal l D Bs _ kd rf _ (a + 1) r ((ShX.now hX)) hVk hM) ⟨_, _, ((ShX.now hX)).1, rfl, rfl⟩ (by decide) ⟨Nat.zero_le _, Nat.zero_le _⟩ (Nat.le_of_ble_eq_true rfl) (fun r199 M199 h199 => ?_)
      obtain ⟨hr199, hm199⟩ := h199
      subst hr199
      obtain rfl := hm199.symm
      refine G.iret X dX5_count_202 ⟨Nat.le_refl _, Nat.le_refl _⟩ ⟨rfl, rfl, rfl, _, rfl, ?_⟩
      refine ⟨?_, hC, Off.rf⟩
      unfold cntF
      rw [if_neg (by decide), if_neg (by decide), if_neg (by decide), if_neg (by decide), if_neg (by decide), if_neg (by decide), if_neg (by decide), if_neg (by decide), if_neg (by decide), if_neg (by decide), if_neg (by decide), if_neg (by decide), if_neg (by decide), if_pos rfl]
      exact s010.symm
    · subst hsw2
      refine G.tableIn X 203 dX5_count_1 (by omega) (by omega) (by omega) (by rfl) (by decide) ?_
      refine G.aload_n X 204 dX5_count_203 rfl rfl ?_
      refine G.getR X fl_X5_10 207 dX5_count_204 rfl (hX).1 (ShX.r0 hX) ?_
      refine G.getI X fl_X5_266 210 dX5_count_207 rfl ((ShX.now hX)).1 (((ShX.now hX)).2.1 6 (by decide)) ?_
      refine G.iret X dX5_count_210 ⟨Nat.le_refl _, Nat.le_refl _⟩ ⟨rfl, rfl, rfl, _, rfl, ?_⟩
      refine ⟨?_, hC, Off.rf⟩
      unfold cntF
      rw [if_neg (by decide), if_neg (by decide), if_neg (by decide), if_neg (by decide), if_neg (by decide), if_neg (by decide), if_neg (by decide), if_neg (by decide), if_neg (by decide), if_neg (by decide), if_neg (by decide), if_neg (by decide), if_neg (by decide), if_neg (by decide), if_pos rfl]
      exact hb6
    · subst hsw2
      refine G.tableIn X 211 dX5_count_1 (by omega) (by omega) (by omega) (by rfl) (by decide) ?_
      refine G.aload_n X 212 dX5_count_211 rfl rfl ?_
      refine G.getR X fl_X5_29 215 dX5_count_212 rfl (hX).1 (ShX.r4 hX) ?_
      refine G.getI X fl_X5_204 218 dX5_count_215 rfl ((ShX.hist hX)).1 (((ShX.hist hX)).2.2.1 2 (by decide)) ?_
      refine G.iret X dX5_count_218 ⟨Nat.le_refl _, Nat.le_refl _⟩ ⟨rfl, rfl, rfl, _, rfl, ?_⟩
      refine ⟨?_, hC, Off.rf⟩
      unfold cntF
      rw [if_neg (by decide), if_neg (by decide), if_neg (by decide), if_neg (by decide), if_neg (by decide), if_neg (by decide), if_neg (by decide), if_neg (by decide), if_neg (by decide), if_neg (by decide), if_neg (by decide), if_neg (by decide), if_neg (by decide), if_neg (by decide), if_neg (by decide), if_pos rfl]
      exact hho2
    · subst hsw2
      refine G.tableIn X 219 dX5_count_1 (by omega) (by omega) (by omega) (by rfl) (by decide) ?_
      refine G.aload_n X 220 dX5_count_219 rfl rfl ?_
      refine G.getR X fl_X5_36 223 dX5_count_220 rfl (hX).1 (ShX.r5 hX) ?_
      refine G.getI X fl_X5_178 226 dX5_count_223 rfl ((ShX.text hX)).1 (((ShX.text hX)).2.2.2.1 1 (by decide)) ?_
      refine G.iret X dX5_count_226 ⟨Nat.le_refl _, Nat.le_refl _⟩ ⟨rfl, rfl, rfl, _, rfl, ?_⟩
      refine ⟨?_, hC, Off.rf⟩
      unfold cntF
      rw [if_neg (by decide), if_neg (by decide), if_neg (by decide), if_neg (by decide), if_neg (by decide), if_neg (by decide), if_neg (by decide), if_neg (by decide), if_neg (by decide), if_neg (by decide), if_neg (by decide), if_neg (by decide), if_neg (by decide), if_neg (by decide), if_neg (by decide), if_neg (by decide), if_pos rfl]
      exact htx1
  · refine G.tableOut X 227 dX5_count_1 (by omega) (by omega) (by decide) ?_
    refine G.bipush X 229 dX5_count_227 rfl (by decide) ?_
    refine G.iret X dX5_count_229 ⟨Nat.le_refl _, Nat.le_refl _⟩ ⟨rfl, rfl, rfl, _, rfl, ?_⟩
    refine ⟨?_, hC, Off.rf⟩
    unfold cntF
    rw [if_neg (by omega), if_neg (by omega), if_neg (by omega), if_neg (by omega), if_neg (by omega), if_neg (by omega), if_neg (by omega), if_neg (by omega), if_neg (by omega), if_neg (by omega), if_neg (by omega), if_neg (by omega), if_neg (by omega), if_neg (by omega), if_neg (by omega), if_neg (by omega), if_neg (by omega)]
