theorem fS_ms {M : xM} {y i k : Nat} {q : xR} : fS (ms M y q y) i k = fS q i k := by rw [ms_same]
theorem comeR_alt (r : xR) {u j : Nat} (hu : u < 10) : fu (fu (fu (fu r (16 + 10 * u + 5) ((j : Int) + 1)) (16 + 10 * u + 6) 0) (16 + 10 * u + 7) 0) (116 + 10 * j + 4) ((u : Int) + 1) = comeR r u j := by
  funext x
  unfold comeR
  simp only [fu_at]
  repeat' split
  all_goals first | rfl | (exfalso; omega)
theorem addSiteR_alt (r : xR) (x0 x1 x2 x3 : Int) (h7 : r 7 = (nC r : Int)) : fu (fu (fu (fu (fu (fu (fu (fu (fu (fu r 7 (r 7 + 1)) (116 + 10 * nC r + 0) x0) (116 + 10 * nC r + 1) x1) (116 + 10 * nC r + 2) x2) (116 + 10 * nC r + 3) x3) (116 + 10 * nC r + 4) 0) (116 + 10 * nC r + 5) 0) (116 + 10 * nC r + 6) 0) (116 + 10 * nC r + 7) 0) (116 + 10 * nC r + 8) 0 = addSiteR r x0 x1 x2 x3 := by
  funext x
  unfold addSiteR
  simp only [fu_at]
  repeat' split
  all_goals first | rfl | (exfalso; omega)
theorem addSetR_alt (r : xR) (x0 x1 x2 x3 : Int) (h6 : r 6 = (nS r : Int)) : fu (fu (fu (fu (fu (fu (fu (fu (fu (fu r 6 (r 6 + 1)) (16 + 10 * nS r + 0) x0) (16 + 10 * nS r + 1) x1) (16 + 10 * nS r + 2) x2) (16 + 10 * nS r + 3) x3) (16 + 10 * nS r + 4) 0) (16 + 10 * nS r + 5) 0) (16 + 10 * nS r + 6) 0) (16 + 10 * nS r + 7) 0) (16 + 10 * nS r + 8) 0 = addSetR r x0 x1 x2 x3 := by
  funext x
  unfold addSetR
  simp only [fu_at]
  repeat' split
  all_goals first | rfl | (exfalso; omega)
set_option maxHeartbeats 1000000 in
set_option maxRecDepth 100000 in
theorem c_X6_in (l : Launch) (D : xD) (Bs sz : Nat) (kd : xKd) (rf : xRf) (M : xM) (x u v : Int) (r0 : IR x) (r1 : IR u) (r2 : IR v) : CtI l D Bs yX6_in cX6_in 3 (some .boolean) 0 [vi x, vi u, vi v] sz kd rf M (fun q M' => q = bi (u ≤ x ∧ x ≤ v) ∧ M' = M) := by
  refine Ctr.of (ys_X6_in.1.2.2.2.2) (List.forall_mem_cons.mpr ⟨rfl, List.forall_mem_cons.mpr ⟨rfl, List.forall_mem_cons.mpr ⟨rfl, fun _ h => absurd h List.not_mem_nil⟩⟩⟩) (Nat.le_of_ble_eq_true rfl) [some (vi x), some (vi u), some (vi v)] rfl ?_
  intro p e s m args below meth c X hin
  refine G.iload_n X 1 dX6_in_0 rfl rfl ?_
  refine G.iload_n X 2 dX6_in_1 rfl rfl ?_
  refine G.icmp_lt X 14 5 dX6_in_2 (by decide) rfl (by omega) (by omega) (fun hc2 => ?_) (fun hc2 => ?_)
  · refine G.iconst X 15 dX6_in_14 rfl ?_
    refine G.zret X dX6_in_15 ⟨Nat.le_refl _, Nat.le_refl _⟩ (Or.inl rfl) ⟨rfl, rfl, rfl, _, rfl, ?_⟩
    exact ⟨(bi_f (by omega)).symm, rfl⟩
  · refine G.iload_n X 6 dX6_in_5 rfl rfl ?_
    refine G.iload_n X 7 dX6_in_6 rfl rfl ?_
    refine G.icmp_gt X 14 10 dX6_in_7 (by decide) rfl (by omega) (by omega) (fun hc7 => ?_) (fun hc7 => ?_)
    · refine G.iconst X 15 dX6_in_14 rfl ?_
      refine G.zret X dX6_in_15 ⟨Nat.le_refl _, Nat.le_refl _⟩ (Or.inl rfl) ⟨rfl, rfl, rfl, _, rfl, ?_⟩
      exact ⟨(bi_f (by omega)).symm, rfl⟩
    · refine G.iconst X 11 dX6_in_10 rfl ?_
      refine G.goto X 15 dX6_in_11 (by decide) ?_
      refine G.zret X dX6_in_15 ⟨Nat.le_refl _, Nat.le_refl _⟩ (Or.inr rfl) ⟨rfl, rfl, rfl, _, rfl, ?_⟩
      exact ⟨(bi_t (by omega)).symm, rfl⟩
set_option maxHeartbeats 1000000 in
set_option maxRecDepth 100000 in
theorem c_X6_least (l : Launch) (D : xD) (Bs sz : Nat) (kd : xKd) (rf : xRf) (M : xM) (x u : Int) (r0 : IR x) (r1 : IR u) : CtI l D Bs yX6_least cX6_least 2 (some .int) 0 [vi x, vi u] sz kd rf M (fun q M' => q = lessI u x ∧ M' = M) := by
  refine Ctr.of (ys_X6_least.1.2.2.2.2) (List.forall_mem_cons.mpr ⟨rfl, List.forall_mem_cons.mpr ⟨rfl, fun _ h => absurd h List.not_mem_nil⟩⟩) (Nat.le_of_ble_eq_true rfl) [some (vi x), some (vi u)] rfl ?_
  intro p e s m args below meth c X hin
  refine G.iload_n X 1 dX6_least_0 rfl rfl ?_
  refine G.iload_n X 2 dX6_least_1 rfl rfl ?_
  refine G.icmp_ge X 9 5 dX6_least_2 (by decide) rfl (by omega) (by omega) (fun hc2 => ?_) (fun hc2 => ?_)
  · refine G.iload_n X 10 dX6_least_9 rfl rfl ?_
    refine G.iret X dX6_least_10 ⟨Nat.le_refl _, Nat.le_refl _⟩ ⟨rfl, rfl, rfl, _, rfl, ?_⟩
    unfold lessI
    first | exact ⟨(if_pos (by omega)).symm, rfl⟩ | exact ⟨(if_neg (by omega)).symm, rfl⟩
  · refine G.iload_n X 6 dX6_least_5 rfl rfl ?_
    refine G.goto X 10 dX6_least_6 (by decide) ?_
    refine G.iret X dX6_least_10 ⟨Nat.le_refl _, Nat.le_refl _⟩ ⟨rfl, rfl, rfl, _, rfl, ?_⟩
    unfold lessI
    first | exact ⟨(if_pos (by omega)).symm, rfl⟩ | exact ⟨(if_neg (by omega)).symm, rfl⟩
set_option maxHeartbeats 1000000 in
set_option maxRecDepth 100000 in
theorem c_X6_ofSet (l : Launch) (D : xD) (Bs sz : Nat) (kd : xKd) (rf : xRf) (M : xM) (y i k : Nat) (hY : ShY kd rf y) (hi : i < 10) (hk : k < 10) : CtI l D Bs yX6_ofSet cX6_ofSet 3 (some .int) 0 [.ref y, vi (i : Int), vi (k : Int)] sz kd rf M (fun q M' => q = fS (M (y + 1)) i k ∧ M' = M) := by
  refine Ctr.of (yv_X6_ofSet.1.2.2.2.2) (List.forall_mem_cons.mpr ⟨rfl, List.forall_mem_cons.mpr ⟨rfl, List.forall_mem_cons.mpr ⟨rfl, fun _ h => absurd h List.not_mem_nil⟩⟩⟩) (Nat.le_of_ble_eq_true rfl) [some (.ref y), some (vi (i : Int)), some (vi (k : Int))] rfl ?_
  intro p e s m args below meth c X hin
  refine G.aload_n X 1 dX6_ofSet_0 rfl rfl ?_
  refine G.getR X fl_X6_7 4 dX6_ofSet_1 rfl (hY).1 (ShY.r0 hY) ?_
  refine G.bipush X 6 dX6_ofSet_4 rfl (by decide) ?_
  refine G.bipush X 8 dX6_ofSet_6 rfl (by decide) ?_
  refine G.iload_n X 9 dX6_ofSet_8 rfl rfl ?_
  refine G.imul X 10 dX6_ofSet_9 rfl ?_
  refine G.iadd X 11 dX6_ofSet_10 rfl ?_
  refine G.iload_n X 12 dX6_ofSet_11 rfl rfl ?_
  refine G.iadd X 13 dX6_ofSet_12 rfl ?_
  refine G.iald X (i := (16 + 10 * i + k)) 14 dX6_ofSet_13 rfl ((ShY.a0 hY)).1 (((ShY.a0 hY)).2 _) (by omega) (by omega) (by decide) ?_
  refine G.iret X dX6_ofSet_14 ⟨Nat.le_refl _, Nat.le_refl _⟩ ⟨rfl, rfl, rfl, _, rfl, ?_⟩
  exact ⟨rfl, rfl⟩
set_option maxHeartbeats 1000000 in
set_option maxRecDepth 100000 in
theorem c_X6_ofSite (l : Launch) (D : xD) (Bs sz : Nat) (kd : xKd) (rf : xRf) (M : xM) (y i k : Nat) (hY : ShY kd rf y) (hi : i < 12) (hk : k < 10) : CtI l D Bs yX6_ofSite cX6_ofSite 3 (some .int) 0 [.ref y, vi (i : Int), vi (k : Int)] sz kd rf M (fun q M' => q = fC (M (y + 1)) i k ∧ M' = M) := by
  refine Ctr.of (yv_X6_ofSite.1.2.2.2.2) (List.forall_mem_cons.mpr ⟨rfl, List.forall_mem_cons.mpr ⟨rfl, List.forall_mem_cons.mpr ⟨rfl, fun _ h => absurd h List.not_mem_nil⟩⟩⟩) (Nat.le_of_ble_eq_true rfl) [some (.ref y), some (vi (i : Int)), some (vi (k : Int))] rfl ?_
  intro p e s m args below meth c X hin
  refine G.aload_n X 1 dX6_ofSite_0 rfl rfl ?_
  refine G.getR X fl_X6_7 4 dX6_ofSite_1 rfl (hY).1 (ShY.r0 hY) ?_
  refine G.bipush X 6 dX6_ofSite_4 rfl (by decide) ?_
  refine G.bipush X 8 dX6_ofSite_6 rfl (by decide) ?_
  refine G.iload_n X 9 dX6_ofSite_8 rfl rfl ?_
  refine G.imul X 10 dX6_ofSite_9 rfl ?_
  refine G.iadd X 11 dX6_ofSite_10 rfl ?_
  refine G.iload_n X 12 dX6_ofSite_11 rfl rfl ?_
  refine G.iadd X 13 dX6_ofSite_12 rfl ?_
  refine G.iald X (i := (116 + 10 * i + k)) 14 dX6_ofSite_13 rfl ((ShY.a0 hY)).1 (((ShY.a0 hY)).2 _) (by omega) (by omega) (by decide) ?_
  refine G.iret X dX6_ofSite_14 ⟨Nat.le_refl _, Nat.le_refl _⟩ ⟨rfl, rfl, rfl, _, rfl, ?_⟩
  exact ⟨rfl, rfl⟩
set_option maxHeartbeats 1000000 in
set_option maxRecDepth 100000 in
theorem c_X6_toSet (l : Launch) (D : xD) (Bs sz : Nat) (kd : xKd) (rf : xRf) (M : xM) (y i k : Nat) (v : Int) (hY : ShY kd rf y) (hi : i < 10) (hk : k < 10) : CtV l D Bs yX6_toSet cX6_toSet 4 none 0 [.ref y, vi (i : Int), vi (k : Int), vi v] sz kd rf M (fun M' => M' = ms M (y + 1) (fu (M (y + 1)) (16 + 10 * i + k) v)) := by
  refine Ctr.of (yv_X6_toSet.1.2.2.2.2) (List.forall_mem_cons.mpr ⟨rfl, List.forall_mem_cons.mpr ⟨rfl, List.forall_mem_cons.mpr ⟨rfl, List.forall_mem_cons.mpr ⟨rfl, fun _ h => absurd h List.not_mem_nil⟩⟩⟩⟩) (Nat.le_of_ble_eq_true rfl) [some (.ref y), some (vi (i : Int)), some (vi (k : Int)), some (vi v)] rfl ?_
  intro p e s m args below meth c X hin
  refine G.aload_n X 1 dX6_toSet_0 rfl rfl ?_
  refine G.getR X fl_X6_7 4 dX6_toSet_1 rfl (hY).1 (ShY.r0 hY) ?_
  refine G.bipush X 6 dX6_toSet_4 rfl (by decide) ?_
  refine G.bipush X 8 dX6_toSet_6 rfl (by decide) ?_
  refine G.iload_n X 9 dX6_toSet_8 rfl rfl ?_
  refine G.imul X 10 dX6_toSet_9 rfl ?_
  refine G.iadd X 11 dX6_toSet_10 rfl ?_
  refine G.iload_n X 12 dX6_toSet_11 rfl rfl ?_
  refine G.iadd X 13 dX6_toSet_12 rfl ?_
  refine G.iload_n X 14 dX6_toSet_13 rfl rfl ?_
  refine G.iast X (i := (16 + 10 * i + k)) 15 dX6_toSet_14 rfl ((ShY.a0 hY)).1 (((ShY.a0 hY)).2 _) (by omega) (by omega) (by decide) ?_
  refine G.vret X dX6_toSet_15 ⟨Nat.le_refl _, Nat.le_refl _⟩ ⟨rfl, rfl, rfl, rfl, ?_⟩
  rfl
set_option maxHeartbeats 1000000 in
set_option maxRecDepth 100000 in
theorem c_X6_toSite (l : Launch) (D : xD) (Bs sz : Nat) (kd : xKd) (rf : xRf) (M : xM) (y i k : Nat) (v : Int) (hY : ShY kd rf y) (hi : i < 12) (hk : k < 10) : CtV l D Bs yX6_toSite cX6_toSite 4 none 0 [.ref y, vi (i : Int), vi (k : Int), vi v] sz kd rf M (fun M' => M' = ms M (y + 1) (fu (M (y + 1)) (116 + 10 * i + k) v)) := by
  refine Ctr.of (yv_X6_toSite.1.2.2.2.2) (List.forall_mem_cons.mpr ⟨rfl, List.forall_mem_cons.mpr ⟨rfl, List.forall_mem_cons.mpr ⟨rfl, List.forall_mem_cons.mpr ⟨rfl, fun _ h => absurd h List.not_mem_nil⟩⟩⟩⟩) (Nat.le_of_ble_eq_true rfl) [some (.ref y), some (vi (i : Int)), some (vi (k : Int)), some (vi v)] rfl ?_
  intro p e s m args below meth c X hin
  refine G.aload_n X 1 dX6_toSite_0 rfl rfl ?_
  refine G.getR X fl_X6_7 4 dX6_toSite_1 rfl (hY).1 (ShY.r0 hY) ?_
  refine G.bipush X 6 dX6_toSite_4 rfl (by decide) ?_
  refine G.bipush X 8 dX6_toSite_6 rfl (by decide) ?_
  refine G.iload_n X 9 dX6_toSite_8 rfl rfl ?_
  refine G.imul X 10 dX6_toSite_9 rfl ?_
  refine G.iadd X 11 dX6_toSite_10 rfl ?_
  refine G.iload_n X 12 dX6_toSite_11 rfl rfl ?_
  refine G.iadd X 13 dX6_toSite_12 rfl ?_
  refine G.iload_n X 14 dX6_toSite_13 rfl rfl ?_
  refine G.iast X (i := (116 + 10 * i + k)) 15 dX6_toSite_14 rfl ((ShY.a0 hY)).1 (((ShY.a0 hY)).2 _) (by omega) (by omega) (by decide) ?_
  refine G.vret X dX6_toSite_15 ⟨Nat.le_refl _, Nat.le_refl _⟩ ⟨rfl, rfl, rfl, rfl, ?_⟩
  rfl
set_option maxHeartbeats 1000000 in
set_option maxRecDepth 100000 in
theorem c_X6_noSet (l : Launch) (D : xD) (Bs sz : Nat) (kd : xKd) (rf : xRf) (M : xM) (y : Nat) (x : Int) (hY : ShY kd rf y) (hV : Vk (M (y + 1))) (rx : IR x) : CtI l D Bs yX6_noSet cX6_noSet 2 (some .boolean) 1 [.ref y, vi x] sz kd rf M (fun q M' => q = bi (¬ (0 ≤ x ∧ x < (M (y + 1)) 6)) ∧ M' = M) := by
  refine Ctr.of (yv_X6_noSet.1.2.2.2.2) (List.forall_mem_cons.mpr ⟨rfl, List.forall_mem_cons.mpr ⟨rfl, fun _ h => absurd h List.not_mem_nil⟩⟩) (Nat.le_of_ble_eq_true rfl) [some (.ref y), some (vi x)] rfl ?_
  intro p e s m args below meth c X hin
  obtain ⟨hv0, hv1, hv2, hv3, hv6, hv7⟩ := hV.1
  refine G.iload_n X 1 dX6_noSet_0 rfl rfl ?_
  refine G.iconst X 2 dX6_noSet_1 rfl ?_
  refine G.aload_n X 3 dX6_noSet_2 rfl rfl ?_
  refine G.getR X fl_X6_7 6 dX6_noSet_3 rfl (hY).1 (ShY.r0 hY) ?_
  refine G.bipush X 8 dX6_noSet_6 rfl (by decide) ?_
  refine G.iald X (i := 6) 9 dX6_noSet_8 rfl ((ShY.a0 hY)).1 (((ShY.a0 hY)).2 _) rfl (by omega) (by decide) ?_
  refine G.iconst X 10 dX6_noSet_9 rfl ?_
  refine G.isub X 11 dX6_noSet_10 rfl ?_
  refine G.sI3 (d := 0) X ml_X6_36 ys_X6_in 14 dX6_noSet_11 rfl (c_X6_in l D Bs _ kd rf _ _ _ _ (by omega) (by omega) (by omega)) (by decide) ⟨Nat.zero_le _, Nat.zero_le _⟩ (Nat.le_of_ble_eq_true rfl) (fun r11 M11 h11 => ?_)
  obtain ⟨hr11, hm11⟩ := h11
  subst hr11
  obtain rfl := hm11.symm
  refine G.ifb_ne X 21 17 dX6_noSet_14 (by decide) rfl (fun hc14 => ?_) (fun hc14 => ?_)
  · refine G.iconst X 22 dX6_noSet_21 rfl ?_
    refine G.zret X dX6_noSet_22 ⟨Nat.le_refl _, Nat.le_refl _⟩ (Or.inl rfl) ⟨rfl, rfl, rfl, _, rfl, ?_⟩
    exact ⟨(bi_f (by omega)).symm, rfl⟩
  · refine G.iconst X 18 dX6_noSet_17 rfl ?_
    refine G.goto X 22 dX6_noSet_18 (by decide) ?_
    refine G.zret X dX6_noSet_22 ⟨Nat.le_refl _, Nat.le_refl _⟩ (Or.inr rfl) ⟨rfl, rfl, rfl, _, rfl, ?_⟩
    exact ⟨(bi_t (by omega)).symm, rfl⟩
set_option maxHeartbeats 1000000 in
set_option maxRecDepth 100000 in
theorem c_X6_noSite (l : Launch) (D : xD) (Bs sz : Nat) (kd : xKd) (rf : xRf) (M : xM) (y : Nat) (x : Int) (hY : ShY kd rf y) (hV : Vk (M (y + 1))) (rx : IR x) : CtI l D Bs yX6_noSite cX6_noSite 2 (some .boolean) 1 [.ref y, vi x] sz kd rf M (fun q M' => q = bi (¬ (0 ≤ x ∧ x < (M (y + 1)) 7)) ∧ M' = M) := by
  refine Ctr.of (yv_X6_noSite.1.2.2.2.2) (List.forall_mem_cons.mpr ⟨rfl, List.forall_mem_cons.mpr ⟨rfl, fun _ h => absurd h List.not_mem_nil⟩⟩) (Nat.le_of_ble_eq_true rfl) [some (.ref y), some (vi x)] rfl ?_
  intro p e s m args below meth c X hin
  obtain ⟨hv0, hv1, hv2, hv3, hv6, hv7⟩ := hV.1
  refine G.iload_n X 1 dX6_noSite_0 rfl rfl ?_
  refine G.iconst X 2 dX6_noSite_1 rfl ?_
  refine G.aload_n X 3 dX6_noSite_2 rfl rfl ?_
  refine G.getR X fl_X6_7 6 dX6_noSite_3 rfl (hY).1 (ShY.r0 hY) ?_
  refine G.bipush X 8 dX6_noSite_6 rfl (by decide) ?_
  refine G.iald X (i := 7) 9 dX6_noSite_8 rfl ((ShY.a0 hY)).1 (((ShY.a0 hY)).2 _) rfl (by omega) (by decide) ?_
  refine G.iconst X 10 dX6_noSite_9 rfl ?_
  refine G.isub X 11 dX6_noSite_10 rfl ?_
  refine G.sI3 (d := 0) X ml_X6_36 ys_X6_in 14 dX6_noSite_11 rfl (c_X6_in l D Bs _ kd rf _ _ _ _ (by omega) (by omega) (by omega)) (by decide) ⟨Nat.zero_le _, Nat.zero_le _⟩ (Nat.le_of_ble_eq_true rfl) (fun r11 M11 h11 => ?_)
  obtain ⟨hr11, hm11⟩ := h11
  subst hr11
  obtain rfl := hm11.symm
  refine G.ifb_ne X 21 17 dX6_noSite_14 (by decide) rfl (fun hc14 => ?_) (fun hc14 => ?_)
  · refine G.iconst X 22 dX6_noSite_21 rfl ?_
    refine G.zret X dX6_noSite_22 ⟨Nat.le_refl _, Nat.le_refl _⟩ (Or.inl rfl) ⟨rfl, rfl, rfl, _, rfl, ?_⟩
    exact ⟨(bi_f (by omega)).symm, rfl⟩
  · refine G.iconst X 18 dX6_noSite_17 rfl ?_
    refine G.goto X 22 dX6_noSite_18 (by decide) ?_
    refine G.zret X dX6_noSite_22 ⟨Nat.le_refl _, Nat.le_refl _⟩ (Or.inr rfl) ⟨rfl, rfl, rfl, _, rfl, ?_⟩
    exact ⟨(bi_t (by omega)).symm, rfl⟩
set_option maxHeartbeats 1000000 in
set_option maxRecDepth 100000 in
theorem c_X6_roomIn (l : Launch) (D : xD) (Bs sz : Nat) (kd : xKd) (rf : xRf) (M : xM) (y i : Nat) (hY : ShY kd rf y) (hi : i < 10) : CtI l D Bs yX6_roomIn cX6_roomIn 2 (some .int) 1 [.ref y, vi (i : Int)] sz kd rf M (fun q M' => q = fS (M (y + 1)) i 1 - fS (M (y + 1)) i 4 ∧ M' = M) := by
  refine Ctr.of (yv_X6_roomIn.1.2.2.2.2) (List.forall_mem_cons.mpr ⟨rfl, List.forall_mem_cons.mpr ⟨rfl, fun _ h => absurd h List.not_mem_nil⟩⟩) (Nat.le_of_ble_eq_true rfl) [some (.ref y), some (vi (i : Int))] rfl ?_
  intro p e s m args below meth c X hin
  refine G.aload_n X 1 dX6_roomIn_0 rfl rfl ?_
  refine G.iload_n X 2 dX6_roomIn_1 rfl rfl ?_
  refine G.iconst X 3 dX6_roomIn_2 rfl ?_
  refine G.vI2 (d := 0) X ml_X6_48 yv_X6_ofSet 6 dX6_roomIn_3 rfl (c_X6_ofSet l D Bs _ kd rf _ y (i) 1 hY (by omega) (by decide)) ⟨_, _, (hY).1, rfl, rfl⟩ (by decide) ⟨Nat.zero_le _, Nat.zero_le _⟩ (Nat.le_of_ble_eq_true rfl) (fun r3 M3 h3 => ?_)
  obtain ⟨hr3, hm3⟩ := h3
  subst hr3
  obtain rfl := hm3.symm
  refine G.aload_n X 7 dX6_roomIn_6 rfl rfl ?_
  refine G.iload_n X 8 dX6_roomIn_7 rfl rfl ?_
  refine G.iconst X 9 dX6_roomIn_8 rfl ?_
  refine G.vI2 (d := 0) X ml_X6_48 yv_X6_ofSet 12 dX6_roomIn_9 rfl (c_X6_ofSet l D Bs _ kd rf _ y (i) 4 hY (by omega) (by decide)) ⟨_, _, (hY).1, rfl, rfl⟩ (by decide) ⟨Nat.zero_le _, Nat.zero_le _⟩ (Nat.le_of_ble_eq_true rfl) (fun r9 M9 h9 => ?_)
  obtain ⟨hr9, hm9⟩ := h9
  subst hr9
  obtain rfl := hm9.symm
  refine G.isub X 13 dX6_roomIn_12 rfl ?_
  refine G.iret X dX6_roomIn_13 ⟨Nat.le_refl _, Nat.le_refl _⟩ ⟨rfl, rfl, rfl, _, rfl, ?_⟩
  exact ⟨rfl, rfl⟩
set_option maxHeartbeats 1000000 in
set_option maxRecDepth 100000 in
theorem c_X6_fills (l : Launch) (D : xD) (Bs sz : Nat) (kd : xKd) (rf : xRf) (M : xM) (y i : Nat) (x : Int) (hY : ShY kd rf y) (hi : i < 10) : CtV l D Bs yX6_fills cX6_fills 3 none 1 [.ref y, vi (i : Int), vi x] sz kd rf M (fun M' => M' = ms M (y + 1) (fillR (M (y + 1)) i x)) := by
  refine Ctr.of (yv_X6_fills.1.2.2.2.2) (List.forall_mem_cons.mpr ⟨rfl, List.forall_mem_cons.mpr ⟨rfl, List.forall_mem_cons.mpr ⟨rfl, fun _ h => absurd h List.not_mem_nil⟩⟩⟩) (Nat.le_of_ble_eq_true rfl) [some (.ref y), some (vi (i : Int)), some (vi x)] rfl ?_
  intro p e s m args below meth c X hin
  refine G.aload_n X 1 dX6_fills_0 rfl rfl ?_
  refine G.iload_n X 2 dX6_fills_1 rfl rfl ?_
  refine G.iconst X 3 dX6_fills_2 rfl ?_
  refine G.aload_n X 4 dX6_fills_3 rfl rfl ?_
  refine G.iload_n X 5 dX6_fills_4 rfl rfl ?_
  refine G.iconst X 6 dX6_fills_5 rfl ?_
  refine G.vI2 (d := 0) X ml_X6_48 yv_X6_ofSet 9 dX6_fills_6 rfl (c_X6_ofSet l D Bs _ kd rf _ y (i) 4 hY (by omega) (by decide)) ⟨_, _, (hY).1, rfl, rfl⟩ (by decide) ⟨Nat.zero_le _, Nat.zero_le _⟩ (Nat.le_of_ble_eq_true rfl) (fun r6 M6 h6 => ?_)
  obtain ⟨hr6, hm6⟩ := h6
  subst hr6
  obtain rfl := hm6.symm
  refine G.iload_n X 10 dX6_fills_9 rfl rfl ?_
  refine G.iadd X 11 dX6_fills_10 rfl ?_
  refine G.vV3 (d := 0) X ml_X6_44 yv_X6_toSet 14 dX6_fills_11 rfl (c_X6_toSet l D Bs _ kd rf _ y (i) 4 _ hY (by omega) (by decide)) ⟨_, _, (hY).1, rfl, rfl⟩ (by decide) ⟨Nat.zero_le _, Nat.zero_le _⟩ (Nat.le_of_ble_eq_true rfl) (fun M11 h11 => ?_)
  subst h11
  try simp only [ms_same, ms_ms]
  refine G.aload_n X 15 dX6_fills_14 rfl rfl ?_
  refine G.getR X fl_X6_7 18 dX6_fills_15 rfl (hY).1 (ShY.r0 hY) ?_
  refine G.iconst X 19 dX6_fills_18 rfl ?_
  refine G.dup2 X 20 dX6_fills_19 rfl rfl rfl ?_
  refine G.iald X (i := 3) 21 dX6_fills_20 rfl ((ShY.a0 hY)).1 (((ShY.a0 hY)).2 _) rfl (by omega) (by decide) ?_
  refine G.iload_n X 22 dX6_fills_21 rfl rfl ?_
  refine G.isub X 23 dX6_fills_22 rfl ?_
  refine G.iast X (i := 3) 24 dX6_fills_23 rfl ((ShY.a0 hY)).1 (((ShY.a0 hY)).2 _) rfl (by omega) (by decide) ?_
  refine G.vret X dX6_fills_24 ⟨Nat.le_refl _, Nat.le_refl _⟩ ⟨rfl, rfl, rfl, rfl, ?_⟩
  simp only [mu, ms_same, ms_ms]
  unfold fillR
  rw [at_fuS (by decide)]
set_option maxHeartbeats 1000000 in
set_option maxRecDepth 100000 in
theorem c_X6_areHours (l : Launch) (D : xD) (Bs sz : Nat) (kd : xKd) (rf : xRf) (M : xM) (y : Nat) (f u : Int) (hY : ShY kd rf y) (hV : Vk (M (y + 1))) (rff : IR f) (ru : IR u) : CtI l D Bs yX6_areHours cX6_areHours 3 (some .boolean) 1 [.ref y, vi f, vi u] sz kd rf M (fun q M' => q = bi (0 ≤ f ∧ f ≤ 998 ∧ f < u ∧ (M (y + 1)) 0 < u ∧ u ≤ 999) ∧ M' = M) := by
  refine Ctr.of (yv_X6_areHours.1.2.2.2.2) (List.forall_mem_cons.mpr ⟨rfl, List.forall_mem_cons.mpr ⟨rfl, List.forall_mem_cons.mpr ⟨rfl, fun _ h => absurd h List.not_mem_nil⟩⟩⟩) (Nat.le_of_ble_eq_true rfl) [some (.ref y), some (vi f), some (vi u)] rfl ?_
  intro p e s m args below meth c X hin
  obtain ⟨hv0, hv1, hv2, hv3, hv6, hv7⟩ := hV.1
  refine G.iload_n X 1 dX6_areHours_0 rfl rfl ?_
  refine G.iconst X 2 dX6_areHours_1 rfl ?_
  refine G.sipush X 5 dX6_areHours_2 rfl (by decide) ?_
  refine G.sI3 (d := 0) X ml_X6_36 ys_X6_in 8 dX6_areHours_5 rfl (c_X6_in l D Bs _ kd rf _ _ _ _ (by omega) (by omega) (by omega)) (by decide) ⟨Nat.zero_le _, Nat.zero_le _⟩ (Nat.le_of_ble_eq_true rfl) (fun r5 M5 h5 => ?_)
  obtain ⟨hr5, hm5⟩ := h5
  subst hr5
  obtain rfl := hm5.symm
  refine G.ifb_eq X 37 11 dX6_areHours_8 (by decide) rfl (fun hc8 => ?_) (fun hc8 => ?_)
  · refine G.iconst X 38 dX6_areHours_37 rfl ?_
    refine G.zret X dX6_areHours_38 ⟨Nat.le_refl _, Nat.le_refl _⟩ (Or.inl rfl) ⟨rfl, rfl, rfl, _, rfl, ?_⟩
    exact ⟨(bi_f (by omega)).symm, rfl⟩
  · refine G.iload_n X 12 dX6_areHours_11 rfl rfl ?_
    refine G.iload_n X 13 dX6_areHours_12 rfl rfl ?_
    refine G.icmp_le X 37 16 dX6_areHours_13 (by decide) rfl (by omega) (by omega) (fun hc13 => ?_) (fun hc13 => ?_)
    · refine G.iconst X 38 dX6_areHours_37 rfl ?_
      refine G.zret X dX6_areHours_38 ⟨Nat.le_refl _, Nat.le_refl _⟩ (Or.inl rfl) ⟨rfl, rfl, rfl, _, rfl, ?_⟩
      exact ⟨(bi_f (by omega)).symm, rfl⟩
    · refine G.iload_n X 17 dX6_areHours_16 rfl rfl ?_
      refine G.aload_n X 18 dX6_areHours_17 rfl rfl ?_
      refine G.getR X fl_X6_7 21 dX6_areHours_18 rfl (hY).1 (ShY.r0 hY) ?_
      refine G.iconst X 22 dX6_areHours_21 rfl ?_
      refine G.iald X (i := 0) 23 dX6_areHours_22 rfl ((ShY.a0 hY)).1 (((ShY.a0 hY)).2 _) rfl (by omega) (by decide) ?_
      refine G.icmp_le X 37 26 dX6_areHours_23 (by decide) rfl (by omega) (by omega) (fun hc23 => ?_) (fun hc23 => ?_)
      · refine G.iconst X 38 dX6_areHours_37 rfl ?_
        refine G.zret X dX6_areHours_38 ⟨Nat.le_refl _, Nat.le_refl _⟩ (Or.inl rfl) ⟨rfl, rfl, rfl, _, rfl, ?_⟩
        exact ⟨(bi_f (by omega)).symm, rfl⟩
      · refine G.iload_n X 27 dX6_areHours_26 rfl rfl ?_
        refine G.sipush X 30 dX6_areHours_27 rfl (by decide) ?_
        refine G.icmp_gt X 37 33 dX6_areHours_30 (by decide) rfl (by omega) (by omega) (fun hc30 => ?_) (fun hc30 => ?_)
        · refine G.iconst X 38 dX6_areHours_37 rfl ?_
          refine G.zret X dX6_areHours_38 ⟨Nat.le_refl _, Nat.le_refl _⟩ (Or.inl rfl) ⟨rfl, rfl, rfl, _, rfl, ?_⟩
          exact ⟨(bi_f (by omega)).symm, rfl⟩
        · refine G.iconst X 34 dX6_areHours_33 rfl ?_
          refine G.goto X 38 dX6_areHours_34 (by decide) ?_
          refine G.zret X dX6_areHours_38 ⟨Nat.le_refl _, Nat.le_refl _⟩ (Or.inr rfl) ⟨rfl, rfl, rfl, _, rfl, ?_⟩
          exact ⟨(bi_t (by omega)).symm, rfl⟩
set_option maxHeartbeats 1000000 in
set_option maxRecDepth 100000 in
theorem c_X6_adds (l : Launch) (D : xD) (Bs sz : Nat) (kd : xKd) (rf : xRf) (M : xM) (y : Nat) (x0 x1 x2 x3 : Int) (hY : ShY kd rf y) (hV : Vk (M (y + 1))) (hn : nC (M (y + 1)) < 12) : CtI l D Bs yX6_adds cX6_adds 7 (some .int) 1 [.ref y, vi x0, vi x1, vi x2, vi x3] sz kd rf M (fun q M' => q = (nC (M (y + 1)) : Int) ∧ M' = ms M (y + 1) (addSiteR (M (y + 1)) x0 x1 x2 x3)) := by
  refine Ctr.of (yv_X6_adds.1.2.2.2.2) (List.forall_mem_cons.mpr ⟨rfl, List.forall_mem_cons.mpr ⟨rfl, List.forall_mem_cons.mpr ⟨rfl, List.forall_mem_cons.mpr ⟨rfl, List.forall_mem_cons.mpr ⟨rfl, fun _ h => absurd h List.not_mem_nil⟩⟩⟩⟩⟩) (Nat.le_of_ble_eq_true rfl) [some (.ref y), some (vi x0), some (vi x1), some (vi x2), some (vi x3), none, none] rfl ?_
  intro p e s m args below meth c X hin
  obtain ⟨n7, n7b⟩ := hV.n7
  refine G.aload_n X 1 dX6_adds_0 rfl rfl ?_
  refine G.getR X fl_X6_7 4 dX6_adds_1 rfl (hY).1 (ShY.r0 hY) ?_
  refine G.bipush X 6 dX6_adds_4 rfl (by decide) ?_
  refine G.iald X (i := 7) 7 dX6_adds_6 rfl ((ShY.a0 hY)).1 (((ShY.a0 hY)).2 _) rfl (by omega) (by decide) ?_
  rw [n7]
  refine G.istore (ls' := [_, _, _, _, _, _, _]) X 9 dX6_adds_7 rfl (by decide) rfl ?_
  refine G.aload_n X 10 dX6_adds_9 rfl rfl ?_
  refine G.getR X fl_X6_7 13 dX6_adds_10 rfl (hY).1 (ShY.r0 hY) ?_
  refine G.bipush X 15 dX6_adds_13 rfl (by decide) ?_
  refine G.dup2 X 16 dX6_adds_15 rfl rfl rfl ?_
  refine G.iald X (i := 7) 17 dX6_adds_16 rfl ((ShY.a0 hY)).1 (((ShY.a0 hY)).2 _) rfl (by omega) (by decide) ?_
  refine G.iconst X 18 dX6_adds_17 rfl ?_
  refine G.iadd X 19 dX6_adds_18 rfl ?_
  refine G.iast X (i := 7) 20 dX6_adds_19 rfl ((ShY.a0 hY)).1 (((ShY.a0 hY)).2 _) rfl (by omega) (by decide) ?_
  simp only [mu, ms_same, ms_ms]
  refine G.aload_n X 21 dX6_adds_20 rfl rfl ?_
  refine G.iload X 23 dX6_adds_21 rfl rfl ?_
  refine G.iconst X 24 dX6_adds_23 rfl ?_
  refine G.iload_n X 25 dX6_adds_24 rfl rfl ?_
  refine G.vV3 (d := 0) X ml_X6_67 yv_X6_toSite 28 dX6_adds_25 rfl (c_X6_toSite l D Bs _ kd rf _ y (nC (M (y + 1))) 0 _ hY (by omega) (by decide)) ⟨_, _, (hY).1, rfl, rfl⟩ (by decide) ⟨Nat.zero_le _, Nat.zero_le _⟩ (Nat.le_of_ble_eq_true rfl) (fun M25 h25 => ?_)
  subst h25
  try simp only [ms_same, ms_ms]
  refine G.aload_n X 29 dX6_adds_28 rfl rfl ?_
  refine G.iload X 31 dX6_adds_29 rfl rfl ?_
  refine G.iconst X 32 dX6_adds_31 rfl ?_
  refine G.iload_n X 33 dX6_adds_32 rfl rfl ?_
  refine G.vV3 (d := 0) X ml_X6_67 yv_X6_toSite 36 dX6_adds_33 rfl (c_X6_toSite l D Bs _ kd rf _ y (nC (M (y + 1))) 1 _ hY (by omega) (by decide)) ⟨_, _, (hY).1, rfl, rfl⟩ (by decide) ⟨Nat.zero_le _, Nat.zero_le _⟩ (Nat.le_of_ble_eq_true rfl) (fun M33 h33 => ?_)
  subst h33
  try simp only [ms_same, ms_ms]
  refine G.aload_n X 37 dX6_adds_36 rfl rfl ?_
  refine G.iload X 39 dX6_adds_37 rfl rfl ?_
  refine G.iconst X 40 dX6_adds_39 rfl ?_
  refine G.iload_n X 41 dX6_adds_40 rfl rfl ?_
  refine G.vV3 (d := 0) X ml_X6_67 yv_X6_toSite 44 dX6_adds_41 rfl (c_X6_toSite l D Bs _ kd rf _ y (nC (M (y + 1))) 2 _ hY (by omega) (by decide)) ⟨_, _, (hY).1, rfl, rfl⟩ (by decide) ⟨Nat.zero_le _, Nat.zero_le _⟩ (Nat.le_of_ble_eq_true rfl) (fun M41 h41 => ?_)
  subst h41
  try simp only [ms_same, ms_ms]
  refine G.aload_n X 45 dX6_adds_44 rfl rfl ?_
  refine G.iload X 47 dX6_adds_45 rfl rfl ?_
  refine G.iconst X 48 dX6_adds_47 rfl ?_
  refine G.iload X 50 dX6_adds_48 rfl rfl ?_
  refine G.vV3 (d := 0) X ml_X6_67 yv_X6_toSite 53 dX6_adds_50 rfl (c_X6_toSite l D Bs _ kd rf _ y (nC (M (y + 1))) 3 _ hY (by omega) (by decide)) ⟨_, _, (hY).1, rfl, rfl⟩ (by decide) ⟨Nat.zero_le _, Nat.zero_le _⟩ (Nat.le_of_ble_eq_true rfl) (fun M50 h50 => ?_)
  subst h50
  try simp only [ms_same, ms_ms]
  refine G.iconst X 54 dX6_adds_53 rfl ?_
  refine G.istore (ls' := [_, _, _, _, _, _, _]) X 56 dX6_adds_54 rfl (by decide) rfl ?_
  refine G.iload X 58 dX6_adds_56 rfl rfl ?_
  refine G.bipush X 60 dX6_adds_58 rfl (by decide) ?_
  refine G.icmp_gt X 78 63 dX6_adds_60 (by decide) rfl (by omega) (by omega) (fun hc60 => ?_) (fun hc60 => ?_)
  · exact absurd hc60 (by decide)
  · refine G.aload_n X 64 dX6_adds_63 rfl rfl ?_
    refine G.iload X 66 dX6_adds_64 rfl rfl ?_
    refine G.iload X 68 dX6_adds_66 rfl rfl ?_
    refine G.iconst X 69 dX6_adds_68 rfl ?_
    refine G.vV3 (d := 0) X ml_X6_67 yv_X6_toSite 72 dX6_adds_69 rfl (c_X6_toSite l D Bs _ kd rf _ y (nC (M (y + 1))) 4 _ hY (by omega) (by decide)) ⟨_, _, (hY).1, rfl, rfl⟩ (by decide) ⟨Nat.zero_le _, Nat.zero_le _⟩ (Nat.le_of_ble_eq_true rfl) (fun M69 h69 => ?_)
    subst h69
    try simp only [ms_same, ms_ms]
    refine G.iinc (ls' := [_, _, _, _, _, _, _]) X 75 dX6_adds_72 rfl rfl (by decide) rfl ?_
    refine G.goto X 56 dX6_adds_75 (by decide) ?_
    refine G.iload X 58 dX6_adds_56 rfl rfl ?_
    refine G.bipush X 60 dX6_adds_58 rfl (by decide) ?_
    refine G.icmp_gt X 78 63 dX6_adds_60 (by decide) rfl (by omega) (by omega) (fun hc60 => ?_) (fun hc60 => ?_)
    · exact absurd hc60 (by decide)
    · refine G.aload_n X 64 dX6_adds_63 rfl rfl ?_
      refine G.iload X 66 dX6_adds_64 rfl rfl ?_
      refine G.iload X 68 dX6_adds_66 rfl rfl ?_
      refine G.iconst X 69 dX6_adds_68 rfl ?_
      refine G.vV3 (d := 0) X ml_X6_67 yv_X6_toSite 72 dX6_adds_69 rfl (c_X6_toSite l D Bs _ kd rf _ y (nC (M (y + 1))) 5 _ hY (by omega) (by decide)) ⟨_, _, (hY).1, rfl, rfl⟩ (by decide) ⟨Nat.zero_le _, Nat.zero_le _⟩ (Nat.le_of_ble_eq_true rfl) (fun M69 h69 => ?_)
      subst h69
      try simp only [ms_same, ms_ms]
      refine G.iinc (ls' := [_, _, _, _, _, _, _]) X 75 dX6_adds_72 rfl rfl (by decide) rfl ?_
      refine G.goto X 56 dX6_adds_75 (by decide) ?_
      refine G.iload X 58 dX6_adds_56 rfl rfl ?_
      refine G.bipush X 60 dX6_adds_58 rfl (by decide) ?_
      refine G.icmp_gt X 78 63 dX6_adds_60 (by decide) rfl (by omega) (by omega) (fun hc60 => ?_) (fun hc60 => ?_)
      · exact absurd hc60 (by decide)
      · refine G.aload_n X 64 dX6_adds_63 rfl rfl ?_
        refine G.iload X 66 dX6_adds_64 rfl rfl ?_
        refine G.iload X 68 dX6_adds_66 rfl rfl ?_
        refine G.iconst X 69 dX6_adds_68 rfl ?_
        refine G.vV3 (d := 0) X ml_X6_67 yv_X6_toSite 72 dX6_adds_69 rfl (c_X6_toSite l D Bs _ kd rf _ y (nC (M (y + 1))) 6 _ hY (by omega) (by decide)) ⟨_, _, (hY).1, rfl, rfl⟩ (by decide) ⟨Nat.zero_le _, Nat.zero_le _⟩ (Nat.le_of_ble_eq_true rfl) (fun M69 h69 => ?_)
        subst h69
        try simp only [ms_same, ms_ms]
        refine G.iinc (ls' := [_, _, _, _, _, _, _]) X 75 dX6_adds_72 rfl rfl (by decide) rfl ?_
        refine G.goto X 56 dX6_adds_75 (by decide) ?_
        refine G.iload X 58 dX6_adds_56 rfl rfl ?_
        refine G.bipush X 60 dX6_adds_58 rfl (by decide) ?_
        refine G.icmp_gt X 78 63 dX6_adds_60 (by decide) rfl (by omega) (by omega) (fun hc60 => ?_) (fun hc60 => ?_)
        · exact absurd hc60 (by decide)
        · refine G.aload_n X 64 dX6_adds_63 rfl rfl ?_
          refine G.iload X 66 dX6_adds_64 rfl rfl ?_
          refine G.iload X 68 dX6_adds_66 rfl rfl ?_
          refine G.iconst X 69 dX6_adds_68 rfl ?_
          refine G.vV3 (d := 0) X ml_X6_67 yv_X6_toSite 72 dX6_adds_69 rfl (c_X6_toSite l D Bs _ kd rf _ y (nC (M (y + 1))) 7 _ hY (by omega) (by decide)) ⟨_, _, (hY).1, rfl, rfl⟩ (by decide) ⟨Nat.zero_le _, Nat.zero_le _⟩ (Nat.le_of_ble_eq_true rfl) (fun M69 h69 => ?_)
          subst h69
          try simp only [ms_same, ms_ms]
          refine G.iinc (ls' := [_, _, _, _, _, _, _]) X 75 dX6_adds_72 rfl rfl (by decide) rfl ?_
          refine G.goto X 56 dX6_adds_75 (by decide) ?_
          refine G.iload X 58 dX6_adds_56 rfl rfl ?_
          refine G.bipush X 60 dX6_adds_58 rfl (by decide) ?_
          refine G.icmp_gt X 78 63 dX6_adds_60 (by decide) rfl (by omega) (by omega) (fun hc60 => ?_) (fun hc60 => ?_)
          · exact absurd hc60 (by decide)
          · refine G.aload_n X 64 dX6_adds_63 rfl rfl ?_
            refine G.iload X 66 dX6_adds_64 rfl rfl ?_
            refine G.iload X 68 dX6_adds_66 rfl rfl ?_
            refine G.iconst X 69 dX6_adds_68 rfl ?_
            refine G.vV3 (d := 0) X ml_X6_67 yv_X6_toSite 72 dX6_adds_69 rfl (c_X6_toSite l D Bs _ kd rf _ y (nC (M (y + 1))) 8 _ hY (by omega) (by decide)) ⟨_, _, (hY).1, rfl, rfl⟩ (by decide) ⟨Nat.zero_le _, Nat.zero_le _⟩ (Nat.le_of_ble_eq_true rfl) (fun M69 h69 => ?_)
            subst h69
            try simp only [ms_same, ms_ms]
            refine G.iinc (ls' := [_, _, _, _, _, _, _]) X 75 dX6_adds_72 rfl rfl (by decide) rfl ?_
            refine G.goto X 56 dX6_adds_75 (by decide) ?_
            refine G.iload X 58 dX6_adds_56 rfl rfl ?_
            refine G.bipush X 60 dX6_adds_58 rfl (by decide) ?_
            refine G.icmp_gt X 78 63 dX6_adds_60 (by decide) rfl (by omega) (by omega) (fun hc60 => ?_) (fun hc60 => ?_)
            · refine G.iload X 80 dX6_adds_78 rfl rfl ?_
              refine G.iret X dX6_adds_80 ⟨Nat.le_refl _, Nat.le_refl _⟩ ⟨rfl, rfl, rfl, _, rfl, ?_⟩
              refine ⟨rfl, ?_⟩
              rw [← addSiteR_alt (M (y + 1)) x0 x1 x2 x3 n7, n7]
            · exact absurd hc60 (by decide)
set_option maxHeartbeats 1000000 in
set_option maxRecDepth 100000 in
theorem c_X6_setAt (l : Launch) (D : xD) (Bs sz : Nat) (kd : xKd) (rf : xRf) (M : xM) (y j : Nat) (hY : ShY kd rf y) (hj : j < 12) : CtI l D Bs yX6_setAt cX6_setAt 2 (some .int) 1 [.ref y, vi (j : Int)] sz kd rf M (fun q M' => q = fC (M (y + 1)) j 4 - 1 ∧ M' = M) := by
  refine Ctr.of (yv_X6_setAt.1.2.2.2.2) (List.forall_mem_cons.mpr ⟨rfl, List.forall_mem_cons.mpr ⟨rfl, fun _ h => absurd h List.not_mem_nil⟩⟩) (Nat.le_of_ble_eq_true rfl) [some (.ref y), some (vi (j : Int))] rfl ?_
  intro p e s m args below meth c X hin
  refine G.aload_n X 1 dX6_setAt_0 rfl rfl ?_
  refine G.iload_n X 2 dX6_setAt_1 rfl rfl ?_
  refine G.iconst X 3 dX6_setAt_2 rfl ?_
  refine G.vI2 (d := 0) X ml_X6_78 yv_X6_ofSite 6 dX6_setAt_3 rfl (c_X6_ofSite l D Bs _ kd rf _ y (j) 4 hY (by omega) (by decide)) ⟨_, _, (hY).1, rfl, rfl⟩ (by decide) ⟨Nat.zero_le _, Nat.zero_le _⟩ (Nat.le_of_ble_eq_true rfl) (fun r3 M3 h3 => ?_)
  obtain ⟨hr3, hm3⟩ := h3
  subst hr3
  obtain rfl := hm3.symm
  refine G.iconst X 7 dX6_setAt_6 rfl ?_
  refine G.isub X 8 dX6_setAt_7 rfl ?_
  refine G.iret X dX6_setAt_8 ⟨Nat.le_refl _, Nat.le_refl _⟩ ⟨rfl, rfl, rfl, _, rfl, ?_⟩
  exact ⟨rfl, rfl⟩
set_option maxHeartbeats 1000000 in
set_option maxRecDepth 100000 in
theorem c_X6_isOpen (l : Launch) (D : xD) (Bs sz : Nat) (kd : xKd) (rf : xRf) (M : xM) (y j : Nat) (hY : ShY kd rf y) (hV : Vk (M (y + 1))) (hj : j < nC (M (y + 1))) : CtI l D Bs yX6_isOpen cX6_isOpen 2 (some .boolean) 1 [.ref y, vi (j : Int)] sz kd rf M (fun q M' => q = bi (fC (M (y + 1)) j 2 ≤ (M (y + 1)) 0 ∧ (M (y + 1)) 0 < fC (M (y + 1)) j 3) ∧ M' = M) := by
  refine Ctr.of (yv_X6_isOpen.1.2.2.2.2) (List.forall_mem_cons.mpr ⟨rfl, List.forall_mem_cons.mpr ⟨rfl, fun _ h => absurd h List.not_mem_nil⟩⟩) (Nat.le_of_ble_eq_true rfl) [some (.ref y), some (vi (j : Int))] rfl ?_
  intro p e s m args below meth c X hin
  obtain ⟨n6, n6b⟩ := hV.n6
  obtain ⟨n7, n7b⟩ := hV.n7
  obtain ⟨hv0, hv1, hv2, hv3, hv6, hv7⟩ := hV.1
  obtain ⟨-, -, w2, w3, -, -, -⟩ := hV.2.2 (j) (by omega)
  refine G.aload_n X 1 dX6_isOpen_0 rfl rfl ?_
  refine G.iload_n X 2 dX6_isOpen_1 rfl rfl ?_
  refine G.iconst X 3 dX6_isOpen_2 rfl ?_
  refine G.vI2 (d := 0) X ml_X6_78 yv_X6_ofSite 6 dX6_isOpen_3 rfl (c_X6_ofSite l D Bs _ kd rf _ y (j) 2 hY (by omega) (by decide)) ⟨_, _, (hY).1, rfl, rfl⟩ (by decide) ⟨Nat.zero_le _, Nat.zero_le _⟩ (Nat.le_of_ble_eq_true rfl) (fun r3 M3 h3 => ?_)
  obtain ⟨hr3, hm3⟩ := h3
  subst hr3
  obtain rfl := hm3.symm
  refine G.aload_n X 7 dX6_isOpen_6 rfl rfl ?_
  refine G.getR X fl_X6_7 10 dX6_isOpen_7 rfl (hY).1 (ShY.r0 hY) ?_
  refine G.iconst X 11 dX6_isOpen_10 rfl ?_
  refine G.iald X (i := 0) 12 dX6_isOpen_11 rfl ((ShY.a0 hY)).1 (((ShY.a0 hY)).2 _) rfl (by omega) (by decide) ?_
  refine G.icmp_gt X 34 15 dX6_isOpen_12 (by decide) rfl (by omega) (by omega) (fun hc12 => ?_) (fun hc12 => ?_)
  · refine G.iconst X 35 dX6_isOpen_34 rfl ?_
    refine G.zret X dX6_isOpen_35 ⟨Nat.le_refl _, Nat.le_refl _⟩ (Or.inl rfl) ⟨rfl, rfl, rfl, _, rfl, ?_⟩
    exact ⟨(bi_f (by omega)).symm, rfl⟩
  · refine G.aload_n X 16 dX6_isOpen_15 rfl rfl ?_
    refine G.getR X fl_X6_7 19 dX6_isOpen_16 rfl (hY).1 (ShY.r0 hY) ?_
    refine G.iconst X 20 dX6_isOpen_19 rfl ?_
    refine G.iald X (i := 0) 21 dX6_isOpen_20 rfl ((ShY.a0 hY)).1 (((ShY.a0 hY)).2 _) rfl (by omega) (by decide) ?_
    refine G.aload_n X 22 dX6_isOpen_21 rfl rfl ?_
    refine G.iload_n X 23 dX6_isOpen_22 rfl rfl ?_
    refine G.iconst X 24 dX6_isOpen_23 rfl ?_
    refine G.vI2 (d := 0) X ml_X6_78 yv_X6_ofSite 27 dX6_isOpen_24 rfl (c_X6_ofSite l D Bs _ kd rf _ y (j) 3 hY (by omega) (by decide)) ⟨_, _, (hY).1, rfl, rfl⟩ (by decide) ⟨Nat.zero_le _, Nat.zero_le _⟩ (Nat.le_of_ble_eq_true rfl) (fun r24 M24 h24 => ?_)
    obtain ⟨hr24, hm24⟩ := h24
    subst hr24
    obtain rfl := hm24.symm
    refine G.icmp_ge X 34 30 dX6_isOpen_27 (by decide) rfl (by omega) (by omega) (fun hc27 => ?_) (fun hc27 => ?_)
    · refine G.iconst X 35 dX6_isOpen_34 rfl ?_
      refine G.zret X dX6_isOpen_35 ⟨Nat.le_refl _, Nat.le_refl _⟩ (Or.inl rfl) ⟨rfl, rfl, rfl, _, rfl, ?_⟩
      exact ⟨(bi_f (by omega)).symm, rfl⟩
    · refine G.iconst X 31 dX6_isOpen_30 rfl ?_
      refine G.goto X 35 dX6_isOpen_31 (by decide) ?_
      refine G.zret X dX6_isOpen_35 ⟨Nat.le_refl _, Nat.le_refl _⟩ (Or.inr rfl) ⟨rfl, rfl, rfl, _, rfl, ?_⟩
      exact ⟨(bi_t (by omega)).symm, rfl⟩
set_option maxHeartbeats 1000000 in
set_option maxRecDepth 100000 in
theorem c_X6_fits (l : Launch) (D : xD) (Bs sz : Nat) (kd : xKd) (rf : xRf) (M : xM) (y i j : Nat) (hY : ShY kd rf y) (hV : Vk (M (y + 1))) (hi : i < nS (M (y + 1))) (hj : j < nC (M (y + 1))) : CtI l D Bs yX6_fits cX6_fits 3 (some .boolean) 1 [.ref y, vi (i : Int), vi (j : Int)] sz kd rf M (fun q M' => q = bi (fC (M (y + 1)) j 1 ≤ fS (M (y + 1)) i 0) ∧ M' = M) := by
  refine Ctr.of (yv_X6_fits.1.2.2.2.2) (List.forall_mem_cons.mpr ⟨rfl, List.forall_mem_cons.mpr ⟨rfl, List.forall_mem_cons.mpr ⟨rfl, fun _ h => absurd h List.not_mem_nil⟩⟩⟩) (Nat.le_of_ble_eq_true rfl) [some (.ref y), some (vi (i : Int)), some (vi (j : Int))] rfl ?_
  intro p e s m args below meth c X hin
  obtain ⟨n6, n6b⟩ := hV.n6
  obtain ⟨n7, n7b⟩ := hV.n7
  obtain ⟨-, w1, -, -, -, -, -⟩ := hV.2.2 (j) (by omega)
  obtain ⟨v0, -, -, -, -, -, -, -⟩ := hV.2.1 (i) (by omega)
  refine G.aload_n X 1 dX6_fits_0 rfl rfl ?_
  refine G.iload_n X 2 dX6_fits_1 rfl rfl ?_
  refine G.iconst X 3 dX6_fits_2 rfl ?_
  refine G.vI2 (d := 0) X ml_X6_48 yv_X6_ofSet 6 dX6_fits_3 rfl (c_X6_ofSet l D Bs _ kd rf _ y (i) 0 hY (by omega) (by decide)) ⟨_, _, (hY).1, rfl, rfl⟩ (by decide) ⟨Nat.zero_le _, Nat.zero_le _⟩ (Nat.le_of_ble_eq_true rfl) (fun r3 M3 h3 => ?_)
  obtain ⟨hr3, hm3⟩ := h3
  subst hr3
  obtain rfl := hm3.symm
  refine G.aload_n X 7 dX6_fits_6 rfl rfl ?_
  refine G.iload_n X 8 dX6_fits_7 rfl rfl ?_
  refine G.iconst X 9 dX6_fits_8 rfl ?_
  refine G.vI2 (d := 0) X ml_X6_78 yv_X6_ofSite 12 dX6_fits_9 rfl (c_X6_ofSite l D Bs _ kd rf _ y (j) 1 hY (by omega) (by decide)) ⟨_, _, (hY).1, rfl, rfl⟩ (by decide) ⟨Nat.zero_le _, Nat.zero_le _⟩ (Nat.le_of_ble_eq_true rfl) (fun r9 M9 h9 => ?_)
  obtain ⟨hr9, hm9⟩ := h9
  subst hr9
  obtain rfl := hm9.symm
  refine G.icmp_lt X 19 15 dX6_fits_12 (by decide) rfl (by omega) (by omega) (fun hc12 => ?_) (fun hc12 => ?_)
  · refine G.iconst X 20 dX6_fits_19 rfl ?_
    refine G.zret X dX6_fits_20 ⟨Nat.le_refl _, Nat.le_refl _⟩ (Or.inl rfl) ⟨rfl, rfl, rfl, _, rfl, ?_⟩
    exact ⟨(bi_f (by omega)).symm, rfl⟩
  · refine G.iconst X 16 dX6_fits_15 rfl ?_
    refine G.goto X 20 dX6_fits_16 (by decide) ?_
    refine G.zret X dX6_fits_20 ⟨Nat.le_refl _, Nat.le_refl _⟩ (Or.inr rfl) ⟨rfl, rfl, rfl, _, rfl, ?_⟩
    exact ⟨(bi_t (by omega)).symm, rfl⟩
set_option maxHeartbeats 1000000 in
set_option maxRecDepth 100000 in
theorem c_X6_comes (l : Launch) (D : xD) (Bs sz : Nat) (kd : xKd) (rf : xRf) (M : xM) (y i j : Nat) (hY : ShY kd rf y) (hi : i < 10) (hj : j < 12) : CtV l D Bs yX6_comes cX6_comes 3 none 1 [.ref y, vi (i : Int), vi (j : Int)] sz kd rf M (fun M' => M' = ms M (y + 1) (comeR (M (y + 1)) i j)) := by
  refine Ctr.of (yv_X6_comes.1.2.2.2.2) (List.forall_mem_cons.mpr ⟨rfl, List.forall_mem_cons.mpr ⟨rfl, List.forall_mem_cons.mpr ⟨rfl, fun _ h => absurd h List.not_mem_nil⟩⟩⟩) (Nat.le_of_ble_eq_true rfl) [some (.ref y), some (vi (i : Int)), some (vi (j : Int))] rfl ?_
  intro p e s m args below meth c X hin
  refine G.aload_n X 1 dX6_comes_0 rfl rfl ?_
  refine G.iload_n X 2 dX6_comes_1 rfl rfl ?_
  refine G.iconst X 3 dX6_comes_2 rfl ?_
  refine G.iload_n X 4 dX6_comes_3 rfl rfl ?_
  refine G.iconst X 5 dX6_comes_4 rfl ?_
  refine G.iadd X 6 dX6_comes_5 rfl ?_
  refine G.vV3 (d := 0) X ml_X6_44 yv_X6_toSet 9 dX6_comes_6 rfl (c_X6_toSet l D Bs _ kd rf _ y (i) 5 _ hY (by omega) (by decide)) ⟨_, _, (hY).1, rfl, rfl⟩ (by decide) ⟨Nat.zero_le _, Nat.zero_le _⟩ (Nat.le_of_ble_eq_true rfl) (fun M6 h6 => ?_)
  subst h6
  try simp only [ms_same, ms_ms]
  refine G.aload_n X 10 dX6_comes_9 rfl rfl ?_
  refine G.iload_n X 11 dX6_comes_10 rfl rfl ?_
  refine G.bipush X 13 dX6_comes_11 rfl (by decide) ?_
  refine G.iconst X 14 dX6_comes_13 rfl ?_
  refine G.vV3 (d := 0) X ml_X6_44 yv_X6_toSet 17 dX6_comes_14 rfl (c_X6_toSet l D Bs _ kd rf _ y (i) 6 _ hY (by omega) (by decide)) ⟨_, _, (hY).1, rfl, rfl⟩ (by decide) ⟨Nat.zero_le _, Nat.zero_le _⟩ (Nat.le_of_ble_eq_true rfl) (fun M14 h14 => ?_)
  subst h14
  try simp only [ms_same, ms_ms]
  refine G.aload_n X 18 dX6_comes_17 rfl rfl ?_
  refine G.iload_n X 19 dX6_comes_18 rfl rfl ?_
  refine G.bipush X 21 dX6_comes_19 rfl (by decide) ?_
  refine G.iconst X 22 dX6_comes_21 rfl ?_
  refine G.vV3 (d := 0) X ml_X6_44 yv_X6_toSet 25 dX6_comes_22 rfl (c_X6_toSet l D Bs _ kd rf _ y (i) 7 _ hY (by omega) (by decide)) ⟨_, _, (hY).1, rfl, rfl⟩ (by decide) ⟨Nat.zero_le _, Nat.zero_le _⟩ (Nat.le_of_ble_eq_true rfl) (fun M22 h22 => ?_)
  subst h22
  try simp only [ms_same, ms_ms]
  refine G.aload_n X 26 dX6_comes_25 rfl rfl ?_
  refine G.iload_n X 27 dX6_comes_26 rfl rfl ?_
  refine G.iconst X 28 dX6_comes_27 rfl ?_
  refine G.iload_n X 29 dX6_comes_28 rfl rfl ?_
  refine G.iconst X 30 dX6_comes_29 rfl ?_
  refine G.iadd X 31 dX6_comes_30 rfl ?_
  refine G.vV3 (d := 0) X ml_X6_67 yv_X6_toSite 34 dX6_comes_31 rfl (c_X6_toSite l D Bs _ kd rf _ y (j) 4 _ hY (by omega) (by decide)) ⟨_, _, (hY).1, rfl, rfl⟩ (by decide) ⟨Nat.zero_le _, Nat.zero_le _⟩ (Nat.le_of_ble_eq_true rfl) (fun M31 h31 => ?_)
  subst h31
  try simp only [ms_same, ms_ms]
  refine G.vret X dX6_comes_34 ⟨Nat.le_refl _, Nat.le_refl _⟩ ⟨rfl, rfl, rfl, rfl, ?_⟩
  rw [← comeR_alt (M (y + 1)) hi]
set_option maxHeartbeats 1000000 in
set_option maxRecDepth 100000 in
theorem c_X6_goesBack (l : Launch) (D : xD) (Bs sz : Nat) (kd : xKd) (rf : xRf) (M : xM) (y j : Nat) (hY : ShY kd rf y) (hV : Vk (M (y + 1))) (hj : j < nC (M (y + 1))) (h4 : 0 < fC (M (y + 1)) j 4) : CtV l D Bs yX6_goesBack cX6_goesBack 3 none 2 [.ref y, vi (j : Int)] sz kd rf M (fun M' => M' = ms M (y + 1) (backR (M (y + 1)) j)) := by
  refine Ctr.of (yv_X6_goesBack.1.2.2.2.2) (List.forall_mem_cons.mpr ⟨rfl, List.forall_mem_cons.mpr ⟨rfl, fun _ h => absurd h List.not_mem_nil⟩⟩) (Nat.le_of_ble_eq_true rfl) [some (.ref y), some (vi (j : Int)), none] rfl ?_
  intro p e s m args below meth c X hin
  obtain ⟨n6, n6b⟩ := hV.n6
  obtain ⟨n7, n7b⟩ := hV.n7
  obtain ⟨hm, hme⟩ := hasN_lt hV hj h4
  refine G.aload_n X 1 dX6_goesBack_0 rfl rfl ?_
  refine G.iload_n X 2 dX6_goesBack_1 rfl rfl ?_
  refine G.vI1 (d := 1) X ml_X6_81 yv_X6_setAt 5 dX6_goesBack_2 rfl (c_X6_setAt l D Bs _ kd rf _ y (j) hY (by omega)) ⟨_, _, (hY).1, rfl, rfl⟩ (by decide) ⟨Nat.zero_le _, Nat.zero_le _⟩ (Nat.le_of_ble_eq_true rfl) (fun r2 M2 h2 => ?_)
  obtain ⟨hr2, hm2⟩ := h2
  obtain rfl : r2 = (hasN (M (y + 1)) j : Int) := by omega
  obtain rfl := hm2.symm
  refine G.istore_n (ls' := [_, _, _]) X 6 dX6_goesBack_5 rfl (by decide) rfl ?_
  refine G.aload_n X 7 dX6_goesBack_6 rfl rfl ?_
  refine G.iload_n X 8 dX6_goesBack_7 rfl rfl ?_
  refine G.iconst X 9 dX6_goesBack_8 rfl ?_
  refine G.iconst X 10 dX6_goesBack_9 rfl ?_
  refine G.vV3 (d := 0) X ml_X6_44 yv_X6_toSet 13 dX6_goesBack_10 rfl (c_X6_toSet l D Bs _ kd rf _ y (hasN (M (y + 1)) j) 5 _ hY (by omega) (by decide)) ⟨_, _, (hY).1, rfl, rfl⟩ (by decide) ⟨Nat.zero_le _, Nat.zero_le _⟩ (Nat.le_of_ble_eq_true rfl) (fun M10 h10 => ?_)
  subst h10
  try simp only [ms_same, ms_ms]
  refine G.aload_n X 14 dX6_goesBack_13 rfl rfl ?_
  refine G.iload_n X 15 dX6_goesBack_14 rfl rfl ?_
  refine G.bipush X 17 dX6_goesBack_15 rfl (by decide) ?_
  refine G.iconst X 18 dX6_goesBack_17 rfl ?_
  refine G.vV3 (d := 0) X ml_X6_44 yv_X6_toSet 21 dX6_goesBack_18 rfl (c_X6_toSet l D Bs _ kd rf _ y (hasN (M (y + 1)) j) 6 _ hY (by omega) (by decide)) ⟨_, _, (hY).1, rfl, rfl⟩ (by decide) ⟨Nat.zero_le _, Nat.zero_le _⟩ (Nat.le_of_ble_eq_true rfl) (fun M18 h18 => ?_)
  subst h18
  try simp only [ms_same, ms_ms]
  refine G.aload_n X 22 dX6_goesBack_21 rfl rfl ?_
  refine G.iload_n X 23 dX6_goesBack_22 rfl rfl ?_
  refine G.bipush X 25 dX6_goesBack_23 rfl (by decide) ?_
  refine G.iconst X 26 dX6_goesBack_25 rfl ?_
  refine G.vV3 (d := 0) X ml_X6_44 yv_X6_toSet 29 dX6_goesBack_26 rfl (c_X6_toSet l D Bs _ kd rf _ y (hasN (M (y + 1)) j) 7 _ hY (by omega) (by decide)) ⟨_, _, (hY).1, rfl, rfl⟩ (by decide) ⟨Nat.zero_le _, Nat.zero_le _⟩ (Nat.le_of_ble_eq_true rfl) (fun M26 h26 => ?_)
  subst h26
  try simp only [ms_same, ms_ms]
  refine G.aload_n X 30 dX6_goesBack_29 rfl rfl ?_
  refine G.iload_n X 31 dX6_goesBack_30 rfl rfl ?_
  refine G.iconst X 32 dX6_goesBack_31 rfl ?_
  refine G.iconst X 33 dX6_goesBack_32 rfl ?_
  refine G.vV3 (d := 0) X ml_X6_67 yv_X6_toSite 36 dX6_goesBack_33 rfl (c_X6_toSite l D Bs _ kd rf _ y (j) 4 _ hY (by omega) (by decide)) ⟨_, _, (hY).1, rfl, rfl⟩ (by decide) ⟨Nat.zero_le _, Nat.zero_le _⟩ (Nat.le_of_ble_eq_true rfl) (fun M33 h33 => ?_)
  subst h33
  try simp only [ms_same, ms_ms]
  refine G.vret X dX6_goesBack_36 ⟨Nat.le_refl _, Nat.le_refl _⟩ ⟨rfl, rfl, rfl, rfl, ?_⟩
  rfl
set_option maxHeartbeats 1000000 in
set_option maxRecDepth 100000 in
theorem c_X6_wants (l : Launch) (D : xD) (Bs sz : Nat) (kd : xKd) (rf : xRf) (M : xM) (y j : Nat) (hY : ShY kd rf y) (hV : Vk (M (y + 1))) (hj : j < nC (M (y + 1))) : CtI l D Bs yX6_wants cX6_wants 2 (some .boolean) 2 [.ref y, vi (j : Int)] sz kd rf M (fun q M' => q = bi (fC (M (y + 1)) j 4 = 0) ∧ M' = M) := by
  refine Ctr.of (yv_X6_wants.1.2.2.2.2) (List.forall_mem_cons.mpr ⟨rfl, List.forall_mem_cons.mpr ⟨rfl, fun _ h => absurd h List.not_mem_nil⟩⟩) (Nat.le_of_ble_eq_true rfl) [some (.ref y), some (vi (j : Int))] rfl ?_
  intro p e s m args below meth c X hin
  obtain ⟨n6, n6b⟩ := hV.n6
  obtain ⟨n7, n7b⟩ := hV.n7
  obtain ⟨-, -, -, -, w4, -, -⟩ := hV.2.2 (j) (by omega)
  refine G.aload_n X 1 dX6_wants_0 rfl rfl ?_
  refine G.iload_n X 2 dX6_wants_1 rfl rfl ?_
  refine G.vI1 (d := 1) X ml_X6_81 yv_X6_setAt 5 dX6_wants_2 rfl (c_X6_setAt l D Bs _ kd rf _ y (j) hY (by omega)) ⟨_, _, (hY).1, rfl, rfl⟩ (by decide) ⟨Nat.zero_le _, Nat.zero_le _⟩ (Nat.le_of_ble_eq_true rfl) (fun r2 M2 h2 => ?_)
  obtain ⟨hr2, hm2⟩ := h2
  subst hr2
  obtain rfl := hm2.symm
  refine G.if_ge X 12 8 dX6_wants_5 (by decide) rfl (by omega) (fun hc5 => ?_) (fun hc5 => ?_)
  · refine G.iconst X 13 dX6_wants_12 rfl ?_
    refine G.zret X dX6_wants_13 ⟨Nat.le_refl _, Nat.le_refl _⟩ (Or.inl rfl) ⟨rfl, rfl, rfl, _, rfl, ?_⟩
    exact ⟨(bi_f (by omega)).symm, rfl⟩
  · refine G.iconst X 9 dX6_wants_8 rfl ?_
    refine G.goto X 13 dX6_wants_9 (by decide) ?_
    refine G.zret X dX6_wants_13 ⟨Nat.le_refl _, Nat.le_refl _⟩ (Or.inr rfl) ⟨rfl, rfl, rfl, _, rfl, ?_⟩
    exact ⟨(bi_t (by omega)).symm, rfl⟩
set_option maxHeartbeats 1000000 in
set_option maxRecDepth 100000 in
theorem c_X6_hoursLeft (l : Launch) (D : xD) (Bs sz : Nat) (kd : xKd) (rf : xRf) (M : xM) (y i : Nat) (hY : ShY kd rf y) (hV : Vk (M (y + 1))) (hi : i < nS (M (y + 1))) : CtI l D Bs yX6_hoursLeft cX6_hoursLeft 2 (some .int) 1 [.ref y, vi (i : Int)] sz kd rf M (fun q M' => q = hoursL (M (y + 1)) i ∧ M' = M) := by
  refine Ctr.of (yv_X6_hoursLeft.1.2.2.2.2) (List.forall_mem_cons.mpr ⟨rfl, List.forall_mem_cons.mpr ⟨rfl, fun _ h => absurd h List.not_mem_nil⟩⟩) (Nat.le_of_ble_eq_true rfl) [some (.ref y), some (vi (i : Int))] rfl ?_
  intro p e s m args below meth c X hin
  obtain ⟨n6, n6b⟩ := hV.n6
  obtain ⟨n7, n7b⟩ := hV.n7
  obtain ⟨-, v1, v2, -, v4, -, -, -⟩ := hV.2.1 (i) (by omega)
  refine G.aload_n X 1 dX6_hoursLeft_0 rfl rfl ?_
  refine G.iload_n X 2 dX6_hoursLeft_1 rfl rfl ?_
  refine G.iconst X 3 dX6_hoursLeft_2 rfl ?_
  refine G.vI2 (d := 0) X ml_X6_48 yv_X6_ofSet 6 dX6_hoursLeft_3 rfl (c_X6_ofSet l D Bs _ kd rf _ y (i) 4 hY (by omega) (by decide)) ⟨_, _, (hY).1, rfl, rfl⟩ (by decide) ⟨Nat.zero_le _, Nat.zero_le _⟩ (Nat.le_of_ble_eq_true rfl) (fun r3 M3 h3 => ?_)
  obtain ⟨hr3, hm3⟩ := h3
  subst hr3
  obtain rfl := hm3.symm
  refine G.aload_n X 7 dX6_hoursLeft_6 rfl rfl ?_
  refine G.iload_n X 8 dX6_hoursLeft_7 rfl rfl ?_
  refine G.iconst X 9 dX6_hoursLeft_8 rfl ?_
  refine G.vI2 (d := 0) X ml_X6_48 yv_X6_ofSet 12 dX6_hoursLeft_9 rfl (c_X6_ofSet l D Bs _ kd rf _ y (i) 2 hY (by omega) (by decide)) ⟨_, _, (hY).1, rfl, rfl⟩ (by decide) ⟨Nat.zero_le _, Nat.zero_le _⟩ (Nat.le_of_ble_eq_true rfl) (fun r9 M9 h9 => ?_)
  obtain ⟨hr9, hm9⟩ := h9
  subst hr9
  obtain rfl := hm9.symm
  refine G.idivI X 13 dX6_hoursLeft_12 rfl (by omega) (by omega) ?_
  refine G.iret X dX6_hoursLeft_13 ⟨Nat.le_refl _, Nat.le_refl _⟩ ⟨rfl, rfl, rfl, _, rfl, ?_⟩
  exact ⟨rfl, rfl⟩
set_option maxHeartbeats 1000000 in
set_option maxRecDepth 100000 in
theorem c_X6_isNeedier (l : Launch) (D : xD) (Bs sz : Nat) (kd : xKd) (rf : xRf) (M : xM) (y i j : Nat) (hY : ShY kd rf y) (hV : Vk (M (y + 1))) (hi : i < nC (M (y + 1))) (hj : j < nC (M (y + 1))) : CtI l D Bs yX6_isNeedier cX6_isNeedier 3 (some .boolean) 1 [.ref y, vi (i : Int), vi (j : Int)] sz kd rf M (fun q M' => q = bi (nk (M (y + 1)) j < nk (M (y + 1)) i ∨ nk (M (y + 1)) i = nk (M (y + 1)) j ∧ i < j) ∧ M' = M) := by
  refine Ctr.of (yv_X6_isNeedier.1.2.2.2.2) (List.forall_mem_cons.mpr ⟨rfl, List.forall_mem_cons.mpr ⟨rfl, List.forall_mem_cons.mpr ⟨rfl, fun _ h => absurd h List.not_mem_nil⟩⟩⟩) (Nat.le_of_ble_eq_true rfl) [some (.ref y), some (vi (i : Int)), some (vi (j : Int))] rfl ?_
  intro p e s m args below meth c X hin
  obtain ⟨n6, n6b⟩ := hV.n6
  obtain ⟨n7, n7b⟩ := hV.n7
  obtain ⟨w0, w1, -, -, -, -, -⟩ := hV.2.2 (j) (by omega)
  obtain ⟨v0, v1, -, -, -, -, -⟩ := hV.2.2 (i) (by omega)
  refine G.aload_n X 1 dX6_isNeedier_0 rfl rfl ?_
  refine G.iload_n X 2 dX6_isNeedier_1 rfl rfl ?_
  refine G.iconst X 3 dX6_isNeedier_2 rfl ?_
  refine G.vI2 (d := 0) X ml_X6_78 yv_X6_ofSite 6 dX6_isNeedier_3 rfl (c_X6_ofSite l D Bs _ kd rf _ y (i) 0 hY (by omega) (by decide)) ⟨_, _, (hY).1, rfl, rfl⟩ (by decide) ⟨Nat.zero_le _, Nat.zero_le _⟩ (Nat.le_of_ble_eq_true rfl) (fun r3 M3 h3 => ?_)
  obtain ⟨hr3, hm3⟩ := h3
  subst hr3
  obtain rfl := hm3.symm
  refine G.aload_n X 7 dX6_isNeedier_6 rfl rfl ?_
  refine G.iload_n X 8 dX6_isNeedier_7 rfl rfl ?_
  refine G.iconst X 9 dX6_isNeedier_8 rfl ?_
  refine G.vI2 (d := 0) X ml_X6_78 yv_X6_ofSite 12 dX6_isNeedier_9 rfl (c_X6_ofSite l D Bs _ kd rf _ y (j) 0 hY (by omega) (by decide)) ⟨_, _, (hY).1, rfl, rfl⟩ (by decide) ⟨Nat.zero_le _, Nat.zero_le _⟩ (Nat.le_of_ble_eq_true rfl) (fun r9 M9 h9 => ?_)
  obtain ⟨hr9, hm9⟩ := h9
  subst hr9
  obtain rfl := hm9.symm
  refine G.icmp_eq X 36 15 dX6_isNeedier_12 (by decide) rfl (by omega) (by omega) (fun hc12 => ?_) (fun hc12 => ?_)
  · refine G.aload_n X 37 dX6_isNeedier_36 rfl rfl ?_
    refine G.iload_n X 38 dX6_isNeedier_37 rfl rfl ?_
    refine G.iconst X 39 dX6_isNeedier_38 rfl ?_
    refine G.vI2 (d := 0) X ml_X6_78 yv_X6_ofSite 42 dX6_isNeedier_39 rfl (c_X6_ofSite l D Bs _ kd rf _ y (i) 1 hY (by omega) (by decide)) ⟨_, _, (hY).1, rfl, rfl⟩ (by decide) ⟨Nat.zero_le _, Nat.zero_le _⟩ (Nat.le_of_ble_eq_true rfl) (fun r39 M39 h39 => ?_)
    obtain ⟨hr39, hm39⟩ := h39
    subst hr39
    obtain rfl := hm39.symm
    refine G.aload_n X 43 dX6_isNeedier_42 rfl rfl ?_
    refine G.iload_n X 44 dX6_isNeedier_43 rfl rfl ?_
    refine G.iconst X 45 dX6_isNeedier_44 rfl ?_
    refine G.vI2 (d := 0) X ml_X6_78 yv_X6_ofSite 48 dX6_isNeedier_45 rfl (c_X6_ofSite l D Bs _ kd rf _ y (j) 1 hY (by omega) (by decide)) ⟨_, _, (hY).1, rfl, rfl⟩ (by decide) ⟨Nat.zero_le _, Nat.zero_le _⟩ (Nat.le_of_ble_eq_true rfl) (fun r45 M45 h45 => ?_)
    obtain ⟨hr45, hm45⟩ := h45
    subst hr45
    obtain rfl := hm45.symm
    refine G.icmp_eq X 74 51 dX6_isNeedier_48 (by decide) rfl (by omega) (by omega) (fun hc48 => ?_) (fun hc48 => ?_)
    · refine G.iload_n X 75 dX6_isNeedier_74 rfl rfl ?_
      refine G.iload_n X 76 dX6_isNeedier_75 rfl rfl ?_
      refine G.icmp_ge X 83 79 dX6_isNeedier_76 (by decide) rfl (by omega) (by omega) (fun hc76 => ?_) (fun hc76 => ?_)
      · refine G.iconst X 84 dX6_isNeedier_83 rfl ?_
        refine G.zret X dX6_isNeedier_84 ⟨Nat.le_refl _, Nat.le_refl _⟩ (Or.inl rfl) ⟨rfl, rfl, rfl, _, rfl, ?_⟩
        unfold nk
        first | exact ⟨(bi_t (by omega)).symm, rfl⟩ | exact ⟨(bi_f (by omega)).symm, rfl⟩
      · refine G.iconst X 80 dX6_isNeedier_79 rfl ?_
        refine G.goto X 84 dX6_isNeedier_80 (by decide) ?_
        refine G.zret X dX6_isNeedier_84 ⟨Nat.le_refl _, Nat.le_refl _⟩ (Or.inr rfl) ⟨rfl, rfl, rfl, _, rfl, ?_⟩
        unfold nk
        first | exact ⟨(bi_t (by omega)).symm, rfl⟩ | exact ⟨(bi_f (by omega)).symm, rfl⟩
    · refine G.aload_n X 52 dX6_isNeedier_51 rfl rfl ?_
      refine G.iload_n X 53 dX6_isNeedier_52 rfl rfl ?_
      refine G.iconst X 54 dX6_isNeedier_53 rfl ?_
      refine G.vI2 (d := 0) X ml_X6_78 yv_X6_ofSite 57 dX6_isNeedier_54 rfl (c_X6_ofSite l D Bs _ kd rf _ y (i) 1 hY (by omega) (by decide)) ⟨_, _, (hY).1, rfl, rfl⟩ (by decide) ⟨Nat.zero_le _, Nat.zero_le _⟩ (Nat.le_of_ble_eq_true rfl) (fun r54 M54 h54 => ?_)
      obtain ⟨hr54, hm54⟩ := h54
      subst hr54
      obtain rfl := hm54.symm
      refine G.aload_n X 58 dX6_isNeedier_57 rfl rfl ?_
      refine G.iload_n X 59 dX6_isNeedier_58 rfl rfl ?_
      refine G.iconst X 60 dX6_isNeedier_59 rfl ?_
      refine G.vI2 (d := 0) X ml_X6_78 yv_X6_ofSite 63 dX6_isNeedier_60 rfl (c_X6_ofSite l D Bs _ kd rf _ y (j) 1 hY (by omega) (by decide)) ⟨_, _, (hY).1, rfl, rfl⟩ (by decide) ⟨Nat.zero_le _, Nat.zero_le _⟩ (Nat.le_of_ble_eq_true rfl) (fun r60 M60 h60 => ?_)
      obtain ⟨hr60, hm60⟩ := h60
      subst hr60
      obtain rfl := hm60.symm
      refine G.icmp_le X 70 66 dX6_isNeedier_63 (by decide) rfl (by omega) (by omega) (fun hc63 => ?_) (fun hc63 => ?_)
      · refine G.iconst X 71 dX6_isNeedier_70 rfl ?_
        refine G.goto X 84 dX6_isNeedier_71 (by decide) ?_
        refine G.zret X dX6_isNeedier_84 ⟨Nat.le_refl _, Nat.le_refl _⟩ (Or.inl rfl) ⟨rfl, rfl, rfl, _, rfl, ?_⟩
        unfold nk
        first | exact ⟨(bi_t (by omega)).symm, rfl⟩ | exact ⟨(bi_f (by omega)).symm, rfl⟩
      · refine G.iconst X 67 dX6_isNeedier_66 rfl ?_
        refine G.goto X 84 dX6_isNeedier_67 (by decide) ?_
        refine G.zret X dX6_isNeedier_84 ⟨Nat.le_refl _, Nat.le_refl _⟩ (Or.inr rfl) ⟨rfl, rfl, rfl, _, rfl, ?_⟩
        unfold nk
        first | exact ⟨(bi_t (by omega)).symm, rfl⟩ | exact ⟨(bi_f (by omega)).symm, rfl⟩
  · refine G.aload_n X 16 dX6_isNeedier_15 rfl rfl ?_
    refine G.iload_n X 17 dX6_isNeedier_16 rfl rfl ?_
    refine G.iconst X 18 dX6_isNeedier_17 rfl ?_
    refine G.vI2 (d := 0) X ml_X6_78 yv_X6_ofSite 21 dX6_isNeedier_18 rfl (c_X6_ofSite l D Bs _ kd rf _ y (i) 0 hY (by omega) (by decide)) ⟨_, _, (hY).1, rfl, rfl⟩ (by decide) ⟨Nat.zero_le _, Nat.zero_le _⟩ (Nat.le_of_ble_eq_true rfl) (fun r18 M18 h18 => ?_)
    obtain ⟨hr18, hm18⟩ := h18
    subst hr18
    obtain rfl := hm18.symm
    refine G.aload_n X 22 dX6_isNeedier_21 rfl rfl ?_
    refine G.iload_n X 23 dX6_isNeedier_22 rfl rfl ?_
    refine G.iconst X 24 dX6_isNeedier_23 rfl ?_
    refine G.vI2 (d := 0) X ml_X6_78 yv_X6_ofSite 27 dX6_isNeedier_24 rfl (c_X6_ofSite l D Bs _ kd rf _ y (j) 0 hY (by omega) (by decide)) ⟨_, _, (hY).1, rfl, rfl⟩ (by decide) ⟨Nat.zero_le _, Nat.zero_le _⟩ (Nat.le_of_ble_eq_true rfl) (fun r24 M24 h24 => ?_)
    obtain ⟨hr24, hm24⟩ := h24
    subst hr24
    obtain rfl := hm24.symm
    refine G.icmp_le X 34 30 dX6_isNeedier_27 (by decide) rfl (by omega) (by omega) (fun hc27 => ?_) (fun hc27 => ?_)
    · refine G.iconst X 35 dX6_isNeedier_34 rfl ?_
      refine G.zret X dX6_isNeedier_35 ⟨Nat.le_refl _, Nat.le_refl _⟩ (Or.inl rfl) ⟨rfl, rfl, rfl, _, rfl, ?_⟩
      unfold nk
      first | exact ⟨(bi_t (by omega)).symm, rfl⟩ | exact ⟨(bi_f (by omega)).symm, rfl⟩
    · refine G.iconst X 31 dX6_isNeedier_30 rfl ?_
      refine G.goto X 35 dX6_isNeedier_31 (by decide) ?_
      refine G.zret X dX6_isNeedier_35 ⟨Nat.le_refl _, Nat.le_refl _⟩ (Or.inr rfl) ⟨rfl, rfl, rfl, _, rfl, ?_⟩
      unfold nk
      first | exact ⟨(bi_t (by omega)).symm, rfl⟩ | exact ⟨(bi_f (by omega)).symm, rfl⟩
set_option maxHeartbeats 1000000 in
set_option maxRecDepth 100000 in
theorem c_X6_against (l : Launch) (D : xD) (Bs sz : Nat) (kd : xKd) (rf : xRf) (M : xM) (y i : Nat) (hY : ShY kd rf y) (hV : Vk (M (y + 1))) (hi : i < nS (M (y + 1))) : CtI l D Bs yX6_against cX6_against 3 (some .int) 1 [.ref y, vi (i : Int)] sz kd rf M (fun q M' => q = caF (fun k => fS (M (y + 1)) i k) ((M (y + 1)) 1) ∧ M' = M) := by
  refine Ctr.of (yv_X6_against.1.2.2.2.2) (List.forall_mem_cons.mpr ⟨rfl, List.forall_mem_cons.mpr ⟨rfl, fun _ h => absurd h List.not_mem_nil⟩⟩) (Nat.le_of_ble_eq_true rfl) [some (.ref y), some (vi (i : Int)), none] rfl ?_
  intro p e s m args below meth c X hin
  obtain ⟨n6, n6b⟩ := hV.n6
  obtain ⟨n7, n7b⟩ := hV.n7
  obtain ⟨hv0, hv1, hv2, hv3, hv6, hv7⟩ := hV.1
  obtain ⟨-, v1, v2, v3, v4, -, v6, v7⟩ := hV.2.1 (i) (by omega)
  refine G.aload_n X 1 dX6_against_0 rfl rfl ?_
  refine G.iload_n X 2 dX6_against_1 rfl rfl ?_
  refine G.bipush X 4 dX6_against_2 rfl (by decide) ?_
  refine G.vI2 (d := 0) X ml_X6_48 yv_X6_ofSet 7 dX6_against_4 rfl (c_X6_ofSet l D Bs _ kd rf _ y (i) 6 hY (by omega) (by decide)) ⟨_, _, (hY).1, rfl, rfl⟩ (by decide) ⟨Nat.zero_le _, Nat.zero_le _⟩ (Nat.le_of_ble_eq_true rfl) (fun r4 M4 h4 => ?_)
  obtain ⟨hr4, hm4⟩ := h4
  subst hr4
  obtain rfl := hm4.symm
  refine G.iconst X 8 dX6_against_7 rfl ?_
  refine G.icmp_ne X 13 11 dX6_against_8 (by decide) rfl (by omega) (by omega) (fun hc8 => ?_) (fun hc8 => ?_)
  · refine G.aload_n X 14 dX6_against_13 rfl rfl ?_
    refine G.iload_n X 15 dX6_against_14 rfl rfl ?_
    refine G.iconst X 16 dX6_against_15 rfl ?_
    refine G.vI2 (d := 0) X ml_X6_48 yv_X6_ofSet 19 dX6_against_16 rfl (c_X6_ofSet l D Bs _ kd rf _ y (i) 4 hY (by omega) (by decide)) ⟨_, _, (hY).1, rfl, rfl⟩ (by decide) ⟨Nat.zero_le _, Nat.zero_le _⟩ (Nat.le_of_ble_eq_true rfl) (fun r16 M16 h16 => ?_)
    obtain ⟨hr16, hm16⟩ := h16
    subst hr16
    obtain rfl := hm16.symm
    refine G.aload_n X 20 dX6_against_19 rfl rfl ?_
    refine G.iload_n X 21 dX6_against_20 rfl rfl ?_
    refine G.iconst X 22 dX6_against_21 rfl ?_
    refine G.vI2 (d := 0) X ml_X6_48 yv_X6_ofSet 25 dX6_against_22 rfl (c_X6_ofSet l D Bs _ kd rf _ y (i) 2 hY (by omega) (by decide)) ⟨_, _, (hY).1, rfl, rfl⟩ (by decide) ⟨Nat.zero_le _, Nat.zero_le _⟩ (Nat.le_of_ble_eq_true rfl) (fun r22 M22 h22 => ?_)
    obtain ⟨hr22, hm22⟩ := h22
    subst hr22
    obtain rfl := hm22.symm
    refine G.icmp_ge X 30 28 dX6_against_25 (by decide) rfl (by omega) (by omega) (fun hc25 => ?_) (fun hc25 => ?_)
    · refine G.aload_n X 31 dX6_against_30 rfl rfl ?_
      refine G.iload_n X 32 dX6_against_31 rfl rfl ?_
      refine G.iconst X 33 dX6_against_32 rfl ?_
      refine G.vI2 (d := 0) X ml_X6_48 yv_X6_ofSet 36 dX6_against_33 rfl (c_X6_ofSet l D Bs _ kd rf _ y (i) 3 hY (by omega) (by decide)) ⟨_, _, (hY).1, rfl, rfl⟩ (by decide) ⟨Nat.zero_le _, Nat.zero_le _⟩ (Nat.le_of_ble_eq_true rfl) (fun r33 M33 h33 => ?_)
      obtain ⟨hr33, hm33⟩ := h33
      subst hr33
      obtain rfl := hm33.symm
      refine G.aload_n X 37 dX6_against_36 rfl rfl ?_
      refine G.getR X fl_X6_7 40 dX6_against_37 rfl (hY).1 (ShY.r0 hY) ?_
      refine G.iconst X 41 dX6_against_40 rfl ?_
      refine G.iald X (i := 1) 42 dX6_against_41 rfl ((ShY.a0 hY)).1 (((ShY.a0 hY)).2 _) rfl (by omega) (by decide) ?_
      refine G.isub X 43 dX6_against_42 rfl ?_
      refine G.istore_n (ls' := [_, _, _]) X 44 dX6_against_43 rfl (by decide) rfl ?_
      refine G.iload_n X 45 dX6_against_44 rfl rfl ?_
      refine G.if_le X 65 48 dX6_against_45 (by decide) rfl (by omega) (fun hc45 => ?_) (fun hc45 => ?_)
      · refine G.iconst X 66 dX6_against_65 rfl ?_
        refine G.iret X dX6_against_66 ⟨Nat.le_refl _, Nat.le_refl _⟩ ⟨rfl, rfl, rfl, _, rfl, ?_⟩
        refine ⟨?_, rfl⟩
        unfold caF
        dsimp only
        repeat' split
        all_goals first | rfl | (exfalso; omega)
      · refine G.iload_n X 49 dX6_against_48 rfl rfl ?_
        refine G.iconst X 50 dX6_against_49 rfl ?_
        refine G.aload_n X 51 dX6_against_50 rfl rfl ?_
        refine G.iload_n X 52 dX6_against_51 rfl rfl ?_
        refine G.bipush X 54 dX6_against_52 rfl (by decide) ?_
        refine G.vI2 (d := 0) X ml_X6_48 yv_X6_ofSet 57 dX6_against_54 rfl (c_X6_ofSet l D Bs _ kd rf _ y (i) 7 hY (by omega) (by decide)) ⟨_, _, (hY).1, rfl, rfl⟩ (by decide) ⟨Nat.zero_le _, Nat.zero_le _⟩ (Nat.le_of_ble_eq_true rfl) (fun r54 M54 h54 => ?_)
        obtain ⟨hr54, hm54⟩ := h54
        subst hr54
        obtain rfl := hm54.symm
        refine G.imul X 58 dX6_against_57 rfl ?_
        refine G.icmp_le X 65 61 dX6_against_58 (by decide) rfl (by omega) (by omega) (fun hc58 => ?_) (fun hc58 => ?_)
        · refine G.iconst X 66 dX6_against_65 rfl ?_
          refine G.iret X dX6_against_66 ⟨Nat.le_refl _, Nat.le_refl _⟩ ⟨rfl, rfl, rfl, _, rfl, ?_⟩
          refine ⟨?_, rfl⟩
          unfold caF
          dsimp only
          repeat' split
          all_goals first | rfl | (exfalso; omega)
        · refine G.iconst X 62 dX6_against_61 rfl ?_
          refine G.goto X 66 dX6_against_62 (by decide) ?_
          refine G.iret X dX6_against_66 ⟨Nat.le_refl _, Nat.le_refl _⟩ ⟨rfl, rfl, rfl, _, rfl, ?_⟩
          refine ⟨?_, rfl⟩
          unfold caF
          dsimp only
          repeat' split
          all_goals first | rfl | (exfalso; omega)
    · refine G.iconst X 29 dX6_against_28 rfl ?_
      refine G.iret X dX6_against_29 ⟨Nat.le_refl _, Nat.le_refl _⟩ ⟨rfl, rfl, rfl, _, rfl, ?_⟩
      refine ⟨?_, rfl⟩
      unfold caF
      dsimp only
      repeat' split
      all_goals first | rfl | (exfalso; omega)
  · refine G.iconst X 12 dX6_against_11 rfl ?_
    refine G.iret X dX6_against_12 ⟨Nat.le_refl _, Nat.le_refl _⟩ ⟨rfl, rfl, rfl, _, rfl, ?_⟩
    refine ⟨?_, rfl⟩
    unfold caF
    dsimp only
    repeat' split
    all_goals first | rfl | (exfalso; omega)
