set_option maxHeartbeats 4000000 in
set_option maxRecDepth 100000 in
theorem c_X0_copyFrom (l : Launch) (D : xD) (Bs sz : Nat) (kd : xKd) (rf : xRf) (M : xM) (a o : Nat) (hC : IsC kd rf a) (hO : IsC kd rf o) (hne : o ≠ a) : CtV l D Bs yX0_copyFrom cX0_copyFrom 2 none 0 [.ref a, .ref o] sz kd rf M (fun M' => (∀ k, k < 9 → M' a k = M o k) ∧ ∀ q, q ≠ a → M' q = M q) := by
  refine Ctr.of (yv_X0_copyFrom.1.2.2.2.2) (List.forall_mem_cons.mpr ⟨rfl, List.forall_mem_cons.mpr ⟨rfl, fun _ h => absurd h List.not_mem_nil⟩⟩) (Nat.le_of_ble_eq_true rfl) [some (.ref a), some (.ref o)] rfl ?_
  intro p e s m args below meth c X hin
  refine G.aload_n X 1 dX0_copyFrom_0 rfl rfl ?_
  refine G.aload_n X 2 dX0_copyFrom_1 rfl rfl ?_
  refine G.getI X fl_X0_18 5 dX0_copyFrom_2 rfl (hO).1 ((hO).2 0) ?_
  try simp only [ms_ne hne]
  refine G.putI X fl_X0_18 fi_0_0 rfl 8 dX0_copyFrom_5 rfl (hC).1 ((hC).2 0) ?_
  simp only [mu, ms_ms, ms_same]
  refine G.aload_n X 9 dX0_copyFrom_8 rfl rfl ?_
  refine G.aload_n X 10 dX0_copyFrom_9 rfl rfl ?_
  refine G.getI X fl_X0_21 13 dX0_copyFrom_10 rfl (hO).1 ((hO).2 1) ?_
  try simp only [ms_ne hne]
  refine G.putI X fl_X0_21 fi_0_1 rfl 16 dX0_copyFrom_13 rfl (hC).1 ((hC).2 1) ?_
  simp only [mu, ms_ms, ms_same]
  refine G.aload_n X 17 dX0_copyFrom_16 rfl rfl ?_
  refine G.aload_n X 18 dX0_copyFrom_17 rfl rfl ?_
  refine G.getI X fl_X0_24 21 dX0_copyFrom_18 rfl (hO).1 ((hO).2 2) ?_
  try simp only [ms_ne hne]
  refine G.putI X fl_X0_24 fi_0_2 rfl 24 dX0_copyFrom_21 rfl (hC).1 ((hC).2 2) ?_
  simp only [mu, ms_ms, ms_same]
  refine G.aload_n X 25 dX0_copyFrom_24 rfl rfl ?_
  refine G.aload_n X 26 dX0_copyFrom_25 rfl rfl ?_
  refine G.getI X fl_X0_27 29 dX0_copyFrom_26 rfl (hO).1 ((hO).2 3) ?_
  try simp only [ms_ne hne]
  refine G.putI X fl_X0_27 fi_0_3 rfl 32 dX0_copyFrom_29 rfl (hC).1 ((hC).2 3) ?_
  simp only [mu, ms_ms, ms_same]
  refine G.aload_n X 33 dX0_copyFrom_32 rfl rfl ?_
  refine G.aload_n X 34 dX0_copyFrom_33 rfl rfl ?_
  refine G.getI X fl_X0_9 37 dX0_copyFrom_34 rfl (hO).1 ((hO).2 4) ?_
  try simp only [ms_ne hne]
  refine G.putI X fl_X0_9 fi_0_4 rfl 40 dX0_copyFrom_37 rfl (hC).1 ((hC).2 4) ?_
  simp only [mu, ms_ms, ms_same]
  refine G.aload_n X 41 dX0_copyFrom_40 rfl rfl ?_
  refine G.aload_n X 42 dX0_copyFrom_41 rfl rfl ?_
  refine G.getI X fl_X0_30 45 dX0_copyFrom_42 rfl (hO).1 ((hO).2 5) ?_
  try simp only [ms_ne hne]
  refine G.putI X fl_X0_30 fi_0_5 rfl 48 dX0_copyFrom_45 rfl (hC).1 ((hC).2 5) ?_
  simp only [mu, ms_ms, ms_same]
  refine G.aload_n X 49 dX0_copyFrom_48 rfl rfl ?_
  refine G.aload_n X 50 dX0_copyFrom_49 rfl rfl ?_
  refine G.getI X fl_X0_33 53 dX0_copyFrom_50 rfl (hO).1 ((hO).2 6) ?_
  try simp only [ms_ne hne]
  refine G.putI X fl_X0_33 fi_0_6 rfl 56 dX0_copyFrom_53 rfl (hC).1 ((hC).2 6) ?_
  simp only [mu, ms_ms, ms_same]
  refine G.aload_n X 57 dX0_copyFrom_56 rfl rfl ?_
  refine G.aload_n X 58 dX0_copyFrom_57 rfl rfl ?_
  refine G.getI X fl_X0_36 61 dX0_copyFrom_58 rfl (hO).1 ((hO).2 7) ?_
  try simp only [ms_ne hne]
  refine G.putI X fl_X0_36 fi_0_7 rfl 64 dX0_copyFrom_61 rfl (hC).1 ((hC).2 7) ?_
  simp only [mu, ms_ms, ms_same]
  refine G.aload_n X 65 dX0_copyFrom_64 rfl rfl ?_
  refine G.aload_n X 66 dX0_copyFrom_65 rfl rfl ?_
  refine G.getI X fl_X0_15 69 dX0_copyFrom_66 rfl (hO).1 ((hO).2 8) ?_
  try simp only [ms_ne hne]
  refine G.putI X fl_X0_15 fi_0_8 rfl 72 dX0_copyFrom_69 rfl (hC).1 ((hC).2 8) ?_
  simp only [mu, ms_ms, ms_same]
  refine G.vret X dX0_copyFrom_72 ⟨Nat.le_refl _, Nat.le_refl _⟩ ⟨rfl, rfl, rfl, rfl, ?_⟩
  refine ⟨fun k hk => ?_, fun q hq => ms_ne hq⟩
  rw [ms_same]
  rcases (by omega : k = 0 ∨ k = 1 ∨ k = 2 ∨ k = 3 ∨ k = 4 ∨ k = 5 ∨ k = 6 ∨ k = 7 ∨ k = 8) with h | h | h | h | h | h | h | h | h <;> subst h <;> simp [fu]
set_option maxHeartbeats 4000000 in
set_option maxRecDepth 100000 in
theorem c_X0_begin (l : Launch) (D : xD) (Bs sz : Nat) (kd : xKd) (rf : xRf) (M : xM) (a : Nat) (x0 x1 x2 x3 : Int) (hC : IsC kd rf a) : CtV l D Bs yX0_begin cX0_begin 5 none 0 [.ref a, vi x0, vi x1, vi x2, vi x3] sz kd rf M (fun M' => (M' a 0 = x0 ∧ M' a 1 = x1 ∧ M' a 2 = x2 ∧ M' a 3 = x3 ∧ M' a 4 = -5 ∧ M' a 5 = 0 ∧ M' a 6 = 0 ∧ M' a 7 = 0 ∧ M' a 8 = -5) ∧ ∀ q, q ≠ a → M' q = M q) := by
  refine Ctr.of (yv_X0_begin.1.2.2.2.2) (List.forall_mem_cons.mpr ⟨rfl, List.forall_mem_cons.mpr ⟨rfl, List.forall_mem_cons.mpr ⟨rfl, List.forall_mem_cons.mpr ⟨rfl, List.forall_mem_cons.mpr ⟨rfl, fun _ h => absurd h List.not_mem_nil⟩⟩⟩⟩⟩) (Nat.le_of_ble_eq_true rfl) [some (.ref a), some (vi x0), some (vi x1), some (vi x2), some (vi x3)] rfl ?_
  intro p e s m args below meth c X hin
  refine G.aload_n X 1 dX0_begin_0 rfl rfl ?_
  refine G.iload_n X 2 dX0_begin_1 rfl rfl ?_
  refine G.putI X fl_X0_18 fi_0_0 rfl 5 dX0_begin_2 rfl (hC).1 ((hC).2 0) ?_
  simp only [mu, ms_ms, ms_same]
  refine G.aload_n X 6 dX0_begin_5 rfl rfl ?_
  refine G.iload_n X 7 dX0_begin_6 rfl rfl ?_
  refine G.putI X fl_X0_21 fi_0_1 rfl 10 dX0_begin_7 rfl (hC).1 ((hC).2 1) ?_
  simp only [mu, ms_ms, ms_same]
  refine G.aload_n X 11 dX0_begin_10 rfl rfl ?_
  refine G.iload_n X 12 dX0_begin_11 rfl rfl ?_
  refine G.putI X fl_X0_24 fi_0_2 rfl 15 dX0_begin_12 rfl (hC).1 ((hC).2 2) ?_
  simp only [mu, ms_ms, ms_same]
  refine G.aload_n X 16 dX0_begin_15 rfl rfl ?_
  refine G.iload X 18 dX0_begin_16 rfl rfl ?_
  refine G.putI X fl_X0_27 fi_0_3 rfl 21 dX0_begin_18 rfl (hC).1 ((hC).2 3) ?_
  simp only [mu, ms_ms, ms_same]
  refine G.aload_n X 22 dX0_begin_21 rfl rfl ?_
  refine G.bipush X 24 dX0_begin_22 rfl (by decide) ?_
  refine G.putI X fl_X0_9 fi_0_4 rfl 27 dX0_begin_24 rfl (hC).1 ((hC).2 4) ?_
  simp only [mu, ms_ms, ms_same]
  refine G.aload_n X 28 dX0_begin_27 rfl rfl ?_
  refine G.iconst X 29 dX0_begin_28 rfl ?_
  refine G.putI X fl_X0_30 fi_0_5 rfl 32 dX0_begin_29 rfl (hC).1 ((hC).2 5) ?_
  simp only [mu, ms_ms, ms_same]
  refine G.aload_n X 33 dX0_begin_32 rfl rfl ?_
  refine G.iconst X 34 dX0_begin_33 rfl ?_
  refine G.putI X fl_X0_33 fi_0_6 rfl 37 dX0_begin_34 rfl (hC).1 ((hC).2 6) ?_
  simp only [mu, ms_ms, ms_same]
  refine G.aload_n X 38 dX0_begin_37 rfl rfl ?_
  refine G.iconst X 39 dX0_begin_38 rfl ?_
  refine G.putI X fl_X0_36 fi_0_7 rfl 42 dX0_begin_39 rfl (hC).1 ((hC).2 7) ?_
  simp only [mu, ms_ms, ms_same]
  refine G.aload_n X 43 dX0_begin_42 rfl rfl ?_
  refine G.bipush X 45 dX0_begin_43 rfl (by decide) ?_
  refine G.putI X fl_X0_15 fi_0_8 rfl 48 dX0_begin_45 rfl (hC).1 ((hC).2 8) ?_
  simp only [mu, ms_ms, ms_same]
  refine G.vret X dX0_begin_48 ⟨Nat.le_refl _, Nat.le_refl _⟩ ⟨rfl, rfl, rfl, rfl, ?_⟩
  refine ⟨?_, fun q hq => ms_ne hq⟩
  simp [ms_same, fu]
set_option maxHeartbeats 4000000 in
set_option maxRecDepth 100000 in
theorem c_X0_isOpenIn (l : Launch) (D : xD) (Bs sz : Nat) (kd : xKd) (rf : xRf) (M : xM) (a : Nat) (h : Int) (hC : IsC kd rf a) (r0 : IR h) (r1 : IR (M a 2)) (r2 : IR (M a 3)) : CtI l D Bs yX0_isOpenIn cX0_isOpenIn 2 (some .boolean) 0 [.ref a, vi h] sz kd rf M (fun r M' => r = bi (M a 2 ≤ h ∧ h < M a 3) ∧ M' = M) := by
  refine Ctr.of (yv_X0_isOpenIn.1.2.2.2.2) (List.forall_mem_cons.mpr ⟨rfl, List.forall_mem_cons.mpr ⟨rfl, fun _ h => absurd h List.not_mem_nil⟩⟩) (Nat.le_of_ble_eq_true rfl) [some (.ref a), some (vi h)] rfl ?_
  intro p e s m args below meth c X hin
  refine G.aload_n X 1 dX0_isOpenIn_0 rfl rfl ?_
  refine G.getI X fl_X0_24 4 dX0_isOpenIn_1 rfl (hC).1 ((hC).2 2) ?_
  refine G.iload_n X 5 dX0_isOpenIn_4 rfl rfl ?_
  refine G.icmp_gt X 20 8 dX0_isOpenIn_5 (by decide) rfl (by omega) (by omega) (fun hc5 => ?_) (fun hc5 => ?_)
  · refine G.iconst X 21 dX0_isOpenIn_20 rfl ?_
    refine G.zret X dX0_isOpenIn_21 ⟨Nat.le_refl _, Nat.le_refl _⟩ (Or.inl rfl) ⟨rfl, rfl, rfl, _, rfl, ?_⟩
    exact ⟨(bi_f (by omega)).symm, rfl⟩
  · refine G.iload_n X 9 dX0_isOpenIn_8 rfl rfl ?_
    refine G.aload_n X 10 dX0_isOpenIn_9 rfl rfl ?_
    refine G.getI X fl_X0_27 13 dX0_isOpenIn_10 rfl (hC).1 ((hC).2 3) ?_
    refine G.icmp_ge X 20 16 dX0_isOpenIn_13 (by decide) rfl (by omega) (by omega) (fun hc13 => ?_) (fun hc13 => ?_)
    · refine G.iconst X 21 dX0_isOpenIn_20 rfl ?_
      refine G.zret X dX0_isOpenIn_21 ⟨Nat.le_refl _, Nat.le_refl _⟩ (Or.inl rfl) ⟨rfl, rfl, rfl, _, rfl, ?_⟩
      exact ⟨(bi_f (by omega)).symm, rfl⟩
    · refine G.iconst X 17 dX0_isOpenIn_16 rfl ?_
      refine G.goto X 21 dX0_isOpenIn_17 (by decide) ?_
      refine G.zret X dX0_isOpenIn_21 ⟨Nat.le_refl _, Nat.le_refl _⟩ (Or.inr rfl) ⟨rfl, rfl, rfl, _, rfl, ?_⟩
      exact ⟨(bi_t (by omega)).symm, rfl⟩
set_option maxHeartbeats 4000000 in
set_option maxRecDepth 100000 in
theorem c_X0_needsMoreThan (l : Launch) (D : xD) (Bs sz : Nat) (kd : xKd) (rf : xRf) (M : xM) (a o : Nat) (hC : IsC kd rf a) (hO : IsC kd rf o) (r1 : IR (M a 0)) (r2 : IR (M a 1)) (r3 : IR (M o 0)) (r4 : IR (M o 1)) : CtI l D Bs yX0_needsMoreThan cX0_needsMoreThan 2 (some .boolean) 0 [.ref a, .ref o] sz kd rf M (fun r M' => r = bi (M o 0 < M a 0 ∨ M a 0 = M o 0 ∧ M o 1 < M a 1) ∧ M' = M) := by
  refine Ctr.of (yv_X0_needsMoreThan.1.2.2.2.2) (List.forall_mem_cons.mpr ⟨rfl, List.forall_mem_cons.mpr ⟨rfl, fun _ h => absurd h List.not_mem_nil⟩⟩) (Nat.le_of_ble_eq_true rfl) [some (.ref a), some (.ref o)] rfl ?_
  intro p e s m args below meth c X hin
  refine G.aload_n X 1 dX0_needsMoreThan_0 rfl rfl ?_
  refine G.getI X fl_X0_18 4 dX0_needsMoreThan_1 rfl (hC).1 ((hC).2 0) ?_
  refine G.aload_n X 5 dX0_needsMoreThan_4 rfl rfl ?_
  refine G.getI X fl_X0_18 8 dX0_needsMoreThan_5 rfl (hO).1 ((hO).2 0) ?_
  refine G.icmp_gt X 33 11 dX0_needsMoreThan_8 (by decide) rfl (by omega) (by omega) (fun hc8 => ?_) (fun hc8 => ?_)
  · refine G.iconst X 34 dX0_needsMoreThan_33 rfl ?_
    refine G.goto X 38 dX0_needsMoreThan_34 (by decide) ?_
    refine G.zret X dX0_needsMoreThan_38 ⟨Nat.le_refl _, Nat.le_refl _⟩ (Or.inr rfl) ⟨rfl, rfl, rfl, _, rfl, ?_⟩
    exact ⟨(bi_t (by omega)).symm, rfl⟩
  · refine G.aload_n X 12 dX0_needsMoreThan_11 rfl rfl ?_
    refine G.getI X fl_X0_18 15 dX0_needsMoreThan_12 rfl (hC).1 ((hC).2 0) ?_
    refine G.aload_n X 16 dX0_needsMoreThan_15 rfl rfl ?_
    refine G.getI X fl_X0_18 19 dX0_needsMoreThan_16 rfl (hO).1 ((hO).2 0) ?_
    refine G.icmp_ne X 37 22 dX0_needsMoreThan_19 (by decide) rfl (by omega) (by omega) (fun hc19 => ?_) (fun hc19 => ?_)
    · refine G.iconst X 38 dX0_needsMoreThan_37 rfl ?_
      refine G.zret X dX0_needsMoreThan_38 ⟨Nat.le_refl _, Nat.le_refl _⟩ (Or.inl rfl) ⟨rfl, rfl, rfl, _, rfl, ?_⟩
      exact ⟨(bi_f (by omega)).symm, rfl⟩
    · refine G.aload_n X 23 dX0_needsMoreThan_22 rfl rfl ?_
      refine G.getI X fl_X0_21 26 dX0_needsMoreThan_23 rfl (hC).1 ((hC).2 1) ?_
      refine G.aload_n X 27 dX0_needsMoreThan_26 rfl rfl ?_
      refine G.getI X fl_X0_21 30 dX0_needsMoreThan_27 rfl (hO).1 ((hO).2 1) ?_
      refine G.icmp_le X 37 33 dX0_needsMoreThan_30 (by decide) rfl (by omega) (by omega) (fun hc30 => ?_) (fun hc30 => ?_)
      · refine G.iconst X 38 dX0_needsMoreThan_37 rfl ?_
        refine G.zret X dX0_needsMoreThan_38 ⟨Nat.le_refl _, Nat.le_refl _⟩ (Or.inl rfl) ⟨rfl, rfl, rfl, _, rfl, ?_⟩
        exact ⟨(bi_f (by omega)).symm, rfl⟩
      · refine G.iconst X 34 dX0_needsMoreThan_33 rfl ?_
        refine G.goto X 38 dX0_needsMoreThan_34 (by decide) ?_
        refine G.zret X dX0_needsMoreThan_38 ⟨Nat.le_refl _, Nat.le_refl _⟩ (Or.inr rfl) ⟨rfl, rfl, rfl, _, rfl, ?_⟩
        exact ⟨(bi_t (by omega)).symm, rfl⟩
set_option maxHeartbeats 4000000 in
set_option maxRecDepth 100000 in
theorem c_X0_darken (l : Launch) (D : xD) (Bs sz : Nat) (kd : xKd) (rf : xRf) (M : xM) (a : Nat) (x : Int) (hC : IsC kd rf a) : CtV l D Bs yX0_darken cX0_darken 2 none 0 [.ref a, vi x] sz kd rf M (fun M' => M' = mu (mu M a 6 (M a 6 + 1)) a 8 x) := by
  refine Ctr.of (yv_X0_darken.1.2.2.2.2) (List.forall_mem_cons.mpr ⟨rfl, List.forall_mem_cons.mpr ⟨rfl, fun _ h => absurd h List.not_mem_nil⟩⟩) (Nat.le_of_ble_eq_true rfl) [some (.ref a), some (vi x)] rfl ?_
  intro p e s m args below meth c X hin
  refine G.aload_n X 1 dX0_darken_0 rfl rfl ?_
  refine G.dup X 2 dX0_darken_1 rfl rfl ?_
  refine G.getI X fl_X0_33 5 dX0_darken_2 rfl (hC).1 ((hC).2 6) ?_
  refine G.iconst X 6 dX0_darken_5 rfl ?_
  refine G.iadd X 7 dX0_darken_6 rfl ?_
  refine G.putI X fl_X0_33 fi_0_6 rfl 10 dX0_darken_7 rfl (hC).1 ((hC).2 6) ?_
  refine G.aload_n X 11 dX0_darken_10 rfl rfl ?_
  refine G.iload_n X 12 dX0_darken_11 rfl rfl ?_
  refine G.putI X fl_X0_15 fi_0_8 rfl 15 dX0_darken_12 rfl (hC).1 ((hC).2 8) ?_
  refine G.vret X dX0_darken_15 ⟨Nat.le_refl _, Nat.le_refl _⟩ ⟨rfl, rfl, rfl, rfl, ?_⟩
  rfl
set_option maxHeartbeats 4000000 in
set_option maxRecDepth 100000 in
theorem c_X0_light (l : Launch) (D : xD) (Bs sz : Nat) (kd : xKd) (rf : xRf) (M : xM) (a : Nat) (x : Int) (hC : IsC kd rf a) : CtV l D Bs yX0_light cX0_light 2 none 0 [.ref a, vi x] sz kd rf M (fun M' => M' = mu (mu M a 5 (M a 5 + 1)) a 7 (M a 7 + x)) := by
  refine Ctr.of (yv_X0_light.1.2.2.2.2) (List.forall_mem_cons.mpr ⟨rfl, List.forall_mem_cons.mpr ⟨rfl, fun _ h => absurd h List.not_mem_nil⟩⟩) (Nat.le_of_ble_eq_true rfl) [some (.ref a), some (vi x)] rfl ?_
  intro p e s m args below meth c X hin
  refine G.aload_n X 1 dX0_light_0 rfl rfl ?_
  refine G.dup X 2 dX0_light_1 rfl rfl ?_
  refine G.getI X fl_X0_30 5 dX0_light_2 rfl (hC).1 ((hC).2 5) ?_
  refine G.iconst X 6 dX0_light_5 rfl ?_
  refine G.iadd X 7 dX0_light_6 rfl ?_
  refine G.putI X fl_X0_30 fi_0_5 rfl 10 dX0_light_7 rfl (hC).1 ((hC).2 5) ?_
  refine G.aload_n X 11 dX0_light_10 rfl rfl ?_
  refine G.dup X 12 dX0_light_11 rfl rfl ?_
  refine G.getI X fl_X0_36 15 dX0_light_12 rfl (hC).1 ((hC).2 7) ?_
  refine G.iload_n X 16 dX0_light_15 rfl rfl ?_
  refine G.iadd X 17 dX0_light_16 rfl ?_
  refine G.putI X fl_X0_36 fi_0_7 rfl 20 dX0_light_17 rfl (hC).1 ((hC).2 7) ?_
  refine G.vret X dX0_light_20 ⟨Nat.le_refl _, Nat.le_refl _⟩ ⟨rfl, rfl, rfl, rfl, ?_⟩
  rw [mu_ne (a' := a) (k' := 7) (Or.inr (by decide))]
set_option maxHeartbeats 4000000 in
set_option maxRecDepth 100000 in
theorem c_X1_copyFrom (l : Launch) (D : xD) (Bs sz : Nat) (kd : xKd) (rf : xRf) (M : xM) (a o : Nat) (hG : IsG kd rf a) (hO : IsG kd rf o) (hne : o ≠ a) : CtV l D Bs yX1_copyFrom cX1_copyFrom 2 none 0 [.ref a, .ref o] sz kd rf M (fun M' => (∀ k, k < 9 → M' a k = M o k) ∧ ∀ q, q ≠ a → M' q = M q) := by
  refine Ctr.of (yv_X1_copyFrom.1.2.2.2.2) (List.forall_mem_cons.mpr ⟨rfl, List.forall_mem_cons.mpr ⟨rfl, fun _ h => absurd h List.not_mem_nil⟩⟩) (Nat.le_of_ble_eq_true rfl) [some (.ref a), some (.ref o)] rfl ?_
  intro p e s m args below meth c X hin
  refine G.okd (fun hok => ?_)
  refine G.aload_n X 1 dX1_copyFrom_0 rfl rfl ?_
  refine G.aload_n X 2 dX1_copyFrom_1 rfl rfl ?_
  refine G.getI X fl_X1_15 5 dX1_copyFrom_2 rfl (hO).1 ((hO).2 0) ?_
  try simp only [ms_ne hne]
  refine G.putI X fl_X1_15 fi_1_0 rfl 8 dX1_copyFrom_5 rfl (hG).1 ((hG).2 0) ?_
  simp only [mu, ms_ms, ms_same]
  refine G.aload_n X 9 dX1_copyFrom_8 rfl rfl ?_
  refine G.aload_n X 10 dX1_copyFrom_9 rfl rfl ?_
  refine G.getI X fl_X1_18 13 dX1_copyFrom_10 rfl (hO).1 ((hO).2 1) ?_
  try simp only [ms_ne hne]
  refine G.putI X fl_X1_18 fi_1_1 rfl 16 dX1_copyFrom_13 rfl (hG).1 ((hG).2 1) ?_
  simp only [mu, ms_ms, ms_same]
  refine G.aload_n X 17 dX1_copyFrom_16 rfl rfl ?_
  refine G.aload_n X 18 dX1_copyFrom_17 rfl rfl ?_
  refine G.getI X fl_X1_21 21 dX1_copyFrom_18 rfl (hO).1 ((hO).2 2) ?_
  try simp only [ms_ne hne]
  refine G.putI X fl_X1_21 fi_1_2 rfl 24 dX1_copyFrom_21 rfl (hG).1 ((hG).2 2) ?_
  simp only [mu, ms_ms, ms_same]
  refine G.aload_n X 25 dX1_copyFrom_24 rfl rfl ?_
  refine G.aload_n X 26 dX1_copyFrom_25 rfl rfl ?_
  refine G.getI X fl_X1_24 29 dX1_copyFrom_26 rfl (hO).1 ((hO).2 3) ?_
  try simp only [ms_ne hne]
  refine G.putI X fl_X1_24 fi_1_3 rfl 32 dX1_copyFrom_29 rfl (hG).1 ((hG).2 3) ?_
  simp only [mu, ms_ms, ms_same]
  refine G.aload_n X 33 dX1_copyFrom_32 rfl rfl ?_
  refine G.aload_n X 34 dX1_copyFrom_33 rfl rfl ?_
  refine G.getI X fl_X1_27 37 dX1_copyFrom_34 rfl (hO).1 ((hO).2 4) ?_
  try simp only [ms_ne hne]
  refine G.putI X fl_X1_27 fi_1_4 rfl 40 dX1_copyFrom_37 rfl (hG).1 ((hG).2 4) ?_
  simp only [mu, ms_ms, ms_same]
  refine G.aload_n X 41 dX1_copyFrom_40 rfl rfl ?_
  refine G.aload_n X 42 dX1_copyFrom_41 rfl rfl ?_
  refine G.getI X fl_X1_9 45 dX1_copyFrom_42 rfl (hO).1 ((hO).2 5) ?_
  try simp only [ms_ne hne]
  refine G.putI X fl_X1_9 fi_1_5 rfl 48 dX1_copyFrom_45 rfl (hG).1 ((hG).2 5) ?_
  simp only [mu, ms_ms, ms_same]
  refine G.aload_n X 49 dX1_copyFrom_48 rfl rfl ?_
  refine G.aload_n X 50 dX1_copyFrom_49 rfl rfl ?_
  refine G.getI X fl_X1_30 53 dX1_copyFrom_50 rfl (hO).1 ((hO).2 6) ?_
  try simp only [ms_ne hne]
  refine G.putZ X fl_X1_30 fi_1_6 56 dX1_copyFrom_53 rfl (hG).1 ((hG).2 6) (hok.1 o 1 6 hO.1 rfl) ?_
  simp only [mu, ms_ms, ms_same]
  refine G.aload_n X 57 dX1_copyFrom_56 rfl rfl ?_
  refine G.aload_n X 58 dX1_copyFrom_57 rfl rfl ?_
  refine G.getI X fl_X1_34 61 dX1_copyFrom_58 rfl (hO).1 ((hO).2 7) ?_
  try simp only [ms_ne hne]
  refine G.putI X fl_X1_34 fi_1_7 rfl 64 dX1_copyFrom_61 rfl (hG).1 ((hG).2 7) ?_
  simp only [mu, ms_ms, ms_same]
  refine G.aload_n X 65 dX1_copyFrom_64 rfl rfl ?_
  refine G.aload_n X 66 dX1_copyFrom_65 rfl rfl ?_
  refine G.getI X fl_X1_37 69 dX1_copyFrom_66 rfl (hO).1 ((hO).2 8) ?_
  try simp only [ms_ne hne]
  refine G.putI X fl_X1_37 fi_1_8 rfl 72 dX1_copyFrom_69 rfl (hG).1 ((hG).2 8) ?_
  simp only [mu, ms_ms, ms_same]
  refine G.vret X dX1_copyFrom_72 ⟨Nat.le_refl _, Nat.le_refl _⟩ ⟨rfl, rfl, rfl, rfl, ?_⟩
  refine ⟨fun k hk => ?_, fun q hq => ms_ne hq⟩
  rw [ms_same]
  rcases (by omega : k = 0 ∨ k = 1 ∨ k = 2 ∨ k = 3 ∨ k = 4 ∨ k = 5 ∨ k = 6 ∨ k = 7 ∨ k = 8) with h | h | h | h | h | h | h | h | h <;> subst h <;> simp [fu]
set_option maxHeartbeats 4000000 in
set_option maxRecDepth 100000 in
theorem c_X1_room (l : Launch) (D : xD) (Bs sz : Nat) (kd : xKd) (rf : xRf) (M : xM) (a : Nat) (hG : IsG kd rf a) : CtI l D Bs yX1_room cX1_room 1 (some .int) 0 [.ref a] sz kd rf M (fun r M' => r = M a 1 - M a 4 ∧ M' = M) := by
  refine Ctr.of (yv_X1_room.1.2.2.2.2) (List.forall_mem_cons.mpr ⟨rfl, fun _ h => absurd h List.not_mem_nil⟩) (Nat.le_of_ble_eq_true rfl) [some (.ref a)] rfl ?_
  intro p e s m args below meth c X hin
  refine G.aload_n X 1 dX1_room_0 rfl rfl ?_
  refine G.getI X fl_X1_18 4 dX1_room_1 rfl (hG).1 ((hG).2 1) ?_
  refine G.aload_n X 5 dX1_room_4 rfl rfl ?_
  refine G.getI X fl_X1_27 8 dX1_room_5 rfl (hG).1 ((hG).2 4) ?_
  refine G.isub X 9 dX1_room_8 rfl ?_
  refine G.iret X dX1_room_9 ⟨Nat.le_refl _, Nat.le_refl _⟩ ⟨rfl, rfl, rfl, _, rfl, ?_⟩
  exact ⟨rfl, rfl⟩
set_option maxHeartbeats 4000000 in
set_option maxRecDepth 100000 in
theorem c_X1_hoursLeft (l : Launch) (D : xD) (Bs sz : Nat) (kd : xKd) (rf : xRf) (M : xM) (a : Nat) (hG : IsG kd rf a) (h1 : 0 ≤ M a 4 ∧ M a 4 ≤ 2147483647) (h2 : 0 < M a 2 ∧ M a 2 ≤ 2147483647) : CtI l D Bs yX1_hoursLeft cX1_hoursLeft 1 (some .int) 0 [.ref a] sz kd rf M (fun r M' => r = M a 4 / M a 2 ∧ M' = M) := by
  refine Ctr.of (yv_X1_hoursLeft.1.2.2.2.2) (List.forall_mem_cons.mpr ⟨rfl, fun _ h => absurd h List.not_mem_nil⟩) (Nat.le_of_ble_eq_true rfl) [some (.ref a)] rfl ?_
  intro p e s m args below meth c X hin
  refine G.aload_n X 1 dX1_hoursLeft_0 rfl rfl ?_
  refine G.getI X fl_X1_21 4 dX1_hoursLeft_1 rfl (hG).1 ((hG).2 2) ?_
  refine G.if_le X 19 7 dX1_hoursLeft_4 (by decide) rfl (by omega) (fun hc4 => ?_) (fun hc4 => ?_)
  · refine G.iconst X 20 dX1_hoursLeft_19 rfl ?_
    refine G.iret X dX1_hoursLeft_20 ⟨Nat.le_refl _, Nat.le_refl _⟩ ⟨rfl, rfl, rfl, _, rfl, ?_⟩
    first | exact ⟨rfl, rfl⟩ | (exfalso; omega)
  · refine G.aload_n X 8 dX1_hoursLeft_7 rfl rfl ?_
    refine G.getI X fl_X1_27 11 dX1_hoursLeft_8 rfl (hG).1 ((hG).2 4) ?_
    refine G.aload_n X 12 dX1_hoursLeft_11 rfl rfl ?_
    refine G.getI X fl_X1_21 15 dX1_hoursLeft_12 rfl (hG).1 ((hG).2 2) ?_
    refine G.idivI X 16 dX1_hoursLeft_15 rfl (by omega) (by omega) ?_
    refine G.goto X 20 dX1_hoursLeft_16 (by decide) ?_
    refine G.iret X dX1_hoursLeft_20 ⟨Nat.le_refl _, Nat.le_refl _⟩ ⟨rfl, rfl, rfl, _, rfl, ?_⟩
    first | exact ⟨rfl, rfl⟩ | (exfalso; omega)
set_option maxHeartbeats 4000000 in
set_option maxRecDepth 100000 in
theorem c_X1_moveTo (l : Launch) (D : xD) (Bs sz : Nat) (kd : xKd) (rf : xRf) (M : xM) (a : Nat) (x : Int) (hG : IsG kd rf a) : CtV l D Bs yX1_moveTo cX1_moveTo 2 none 0 [.ref a, vi x] sz kd rf M (fun M' => M' = mu (mu (mu M a 5 x) a 6 0) a 7 0) := by
  refine Ctr.of (yv_X1_moveTo.1.2.2.2.2) (List.forall_mem_cons.mpr ⟨rfl, List.forall_mem_cons.mpr ⟨rfl, fun _ h => absurd h List.not_mem_nil⟩⟩) (Nat.le_of_ble_eq_true rfl) [some (.ref a), some (vi x)] rfl ?_
  intro p e s m args below meth c X hin
  refine G.aload_n X 1 dX1_moveTo_0 rfl rfl ?_
  refine G.iload_n X 2 dX1_moveTo_1 rfl rfl ?_
  refine G.putI X fl_X1_9 fi_1_5 rfl 5 dX1_moveTo_2 rfl (hG).1 ((hG).2 5) ?_
  refine G.aload_n X 6 dX1_moveTo_5 rfl rfl ?_
  refine G.iconst X 7 dX1_moveTo_6 rfl ?_
  refine G.putZ X fl_X1_30 fi_1_6 10 dX1_moveTo_7 rfl (hG).1 ((hG).2 6) (Or.inl rfl) ?_
  refine G.aload_n X 11 dX1_moveTo_10 rfl rfl ?_
  refine G.iconst X 12 dX1_moveTo_11 rfl ?_
  refine G.putI X fl_X1_34 fi_1_7 rfl 15 dX1_moveTo_12 rfl (hG).1 ((hG).2 7) ?_
  refine G.vret X dX1_moveTo_15 ⟨Nat.le_refl _, Nat.le_refl _⟩ ⟨rfl, rfl, rfl, rfl, ?_⟩
  rfl
set_option maxHeartbeats 4000000 in
set_option maxRecDepth 100000 in
theorem c_X1_causeAt (l : Launch) (D : xD) (Bs sz : Nat) (kd : xKd) (rf : xRf) (M : xM) (a : Nat) (t : Int) (hG : IsG kd rf a) (rt : -30 ≤ t ∧ t ≤ 20) (r3 : -30 ≤ M a 3 ∧ M a 3 ≤ 20) (r7 : 0 ≤ M a 7 ∧ M a 7 ≤ 20000) (r4 : IR (M a 4)) (r2 : IR (M a 2)) : CtI l D Bs yX1_causeAt cX1_causeAt 2 (some .int) 0 [.ref a, vi t] sz kd rf M (fun r M' => r = caF (M a) t ∧ M' = M) := by
  refine Ctr.of (yv_X1_causeAt.1.2.2.2.2) (List.forall_mem_cons.mpr ⟨rfl, List.forall_mem_cons.mpr ⟨rfl, fun _ h => absurd h List.not_mem_nil⟩⟩) (Nat.le_of_ble_eq_true rfl) [some (.ref a), some (vi t)] rfl ?_
  intro p e s m args below meth c X hin
  refine G.okd (fun hok => ?_)
  have h6 := hok.1 a 1 6 hG.1 rfl
  refine G.aload_n X 1 dX1_causeAt_0 rfl rfl ?_
  refine G.getI X fl_X1_30 4 dX1_causeAt_1 rfl (hG).1 ((hG).2 6) ?_
  refine G.if_eq X 9 7 dX1_causeAt_4 (by decide) rfl (by omega) (fun hc4 => ?_) (fun hc4 => ?_)
  · refine G.aload_n X 10 dX1_causeAt_9 rfl rfl ?_
    refine G.getI X fl_X1_27 13 dX1_causeAt_10 rfl (hG).1 ((hG).2 4) ?_
    refine G.aload_n X 14 dX1_causeAt_13 rfl rfl ?_
    refine G.getI X fl_X1_21 17 dX1_causeAt_14 rfl (hG).1 ((hG).2 2) ?_
    refine G.icmp_ge X 22 20 dX1_causeAt_17 (by decide) rfl (by omega) (by omega) (fun hc17 => ?_) (fun hc17 => ?_)
    · refine G.iload_n X 23 dX1_causeAt_22 rfl rfl ?_
      refine G.aload_n X 24 dX1_causeAt_23 rfl rfl ?_
      refine G.getI X fl_X1_24 27 dX1_causeAt_24 rfl (hG).1 ((hG).2 3) ?_
      refine G.icmp_ge X 49 30 dX1_causeAt_27 (by decide) rfl (by omega) (by omega) (fun hc27 => ?_) (fun hc27 => ?_)
      · refine G.iconst X 50 dX1_causeAt_49 rfl ?_
        refine G.iret X dX1_causeAt_50 ⟨Nat.le_refl _, Nat.le_refl _⟩ ⟨rfl, rfl, rfl, _, rfl, ?_⟩
        refine ⟨?_, rfl⟩
        unfold caF
        repeat' split
        all_goals first | rfl | (exfalso; omega)
      · refine G.aload_n X 31 dX1_causeAt_30 rfl rfl ?_
        refine G.getI X fl_X1_24 34 dX1_causeAt_31 rfl (hG).1 ((hG).2 3) ?_
        refine G.iload_n X 35 dX1_causeAt_34 rfl rfl ?_
        refine G.isub X 36 dX1_causeAt_35 rfl ?_
        refine G.iconst X 37 dX1_causeAt_36 rfl ?_
        refine G.aload_n X 38 dX1_causeAt_37 rfl rfl ?_
        refine G.getI X fl_X1_34 41 dX1_causeAt_38 rfl (hG).1 ((hG).2 7) ?_
        refine G.imul X 42 dX1_causeAt_41 rfl ?_
        refine G.icmp_le X 49 45 dX1_causeAt_42 (by decide) rfl (by omega) (by omega) (fun hc42 => ?_) (fun hc42 => ?_)
        · refine G.iconst X 50 dX1_causeAt_49 rfl ?_
          refine G.iret X dX1_causeAt_50 ⟨Nat.le_refl _, Nat.le_refl _⟩ ⟨rfl, rfl, rfl, _, rfl, ?_⟩
          refine ⟨?_, rfl⟩
          unfold caF
          repeat' split
          all_goals first | rfl | (exfalso; omega)
        · refine G.iconst X 46 dX1_causeAt_45 rfl ?_
          refine G.goto X 50 dX1_causeAt_46 (by decide) ?_
          refine G.iret X dX1_causeAt_50 ⟨Nat.le_refl _, Nat.le_refl _⟩ ⟨rfl, rfl, rfl, _, rfl, ?_⟩
          refine ⟨?_, rfl⟩
          unfold caF
          repeat' split
          all_goals first | rfl | (exfalso; omega)
    · refine G.iconst X 21 dX1_causeAt_20 rfl ?_
      refine G.iret X dX1_causeAt_21 ⟨Nat.le_refl _, Nat.le_refl _⟩ ⟨rfl, rfl, rfl, _, rfl, ?_⟩
      refine ⟨?_, rfl⟩
      unfold caF
      repeat' split
      all_goals first | rfl | (exfalso; omega)
  · refine G.iconst X 8 dX1_causeAt_7 rfl ?_
    refine G.iret X dX1_causeAt_8 ⟨Nat.le_refl _, Nat.le_refl _⟩ ⟨rfl, rfl, rfl, _, rfl, ?_⟩
    refine ⟨?_, rfl⟩
    unfold caF
    repeat' split
    all_goals first | rfl | (exfalso; omega)
set_option maxHeartbeats 4000000 in
set_option maxRecDepth 100000 in
theorem c_X1_burnHour (l : Launch) (D : xD) (Bs sz : Nat) (kd : xKd) (rf : xRf) (M : xM) (a : Nat) (hG : IsG kd rf a) (r4 : -1000 ≤ M a 4 ∧ M a 4 ≤ 1000) (r2 : -1000 ≤ M a 2 ∧ M a 2 ≤ 1000) : CtV l D Bs yX1_burnHour cX1_burnHour 1 none 0 [.ref a] sz kd rf M (fun M' => M' = mu (mu (mu M a 4 (M a 4 - M a 2)) a 8 (M a 8 + 1)) a 6 (bi (M a 2 ≤ M a 4 - M a 2))) := by
  refine Ctr.of (yv_X1_burnHour.1.2.2.2.2) (List.forall_mem_cons.mpr ⟨rfl, fun _ h => absurd h List.not_mem_nil⟩) (Nat.le_of_ble_eq_true rfl) [some (.ref a)] rfl ?_
  intro p e s m args below meth c X hin
  refine G.aload_n X 1 dX1_burnHour_0 rfl rfl ?_
  refine G.dup X 2 dX1_burnHour_1 rfl rfl ?_
  refine G.getI X fl_X1_27 5 dX1_burnHour_2 rfl (hG).1 ((hG).2 4) ?_
  try simp only [mu, ms_ms, ms_same, fu_at, Nat.reduceEqDiff, reduceIte]
  refine G.aload_n X 6 dX1_burnHour_5 rfl rfl ?_
  refine G.getI X fl_X1_21 9 dX1_burnHour_6 rfl (hG).1 ((hG).2 2) ?_
  try simp only [mu, ms_ms, ms_same, fu_at, Nat.reduceEqDiff, reduceIte]
  refine G.isub X 10 dX1_burnHour_9 rfl ?_
  refine G.putI X fl_X1_27 fi_1_4 rfl 13 dX1_burnHour_10 rfl (hG).1 ((hG).2 4) ?_
  refine G.aload_n X 14 dX1_burnHour_13 rfl rfl ?_
  refine G.dup X 15 dX1_burnHour_14 rfl rfl ?_
  refine G.getI X fl_X1_37 18 dX1_burnHour_15 rfl (hG).1 ((hG).2 8) ?_
  try simp only [mu, ms_ms, ms_same, fu_at, Nat.reduceEqDiff, reduceIte]
  refine G.iconst X 19 dX1_burnHour_18 rfl ?_
  refine G.iadd X 20 dX1_burnHour_19 rfl ?_
  refine G.putI X fl_X1_37 fi_1_8 rfl 23 dX1_burnHour_20 rfl (hG).1 ((hG).2 8) ?_
  refine G.aload_n X 24 dX1_burnHour_23 rfl rfl ?_
  refine G.aload_n X 25 dX1_burnHour_24 rfl rfl ?_
  refine G.getI X fl_X1_27 28 dX1_burnHour_25 rfl (hG).1 ((hG).2 4) ?_
  try simp only [mu, ms_ms, ms_same, fu_at, Nat.reduceEqDiff, reduceIte]
  refine G.aload_n X 29 dX1_burnHour_28 rfl rfl ?_
  refine G.getI X fl_X1_21 32 dX1_burnHour_29 rfl (hG).1 ((hG).2 2) ?_
  try simp only [mu, ms_ms, ms_same, fu_at, Nat.reduceEqDiff, reduceIte]
  refine G.icmp_lt X 39 35 dX1_burnHour_32 (by decide) rfl (by omega) (by omega) (fun hc32 => ?_) (fun hc32 => ?_)
  · refine G.iconst X 40 dX1_burnHour_39 rfl ?_
    refine G.putZ X fl_X1_30 fi_1_6 43 dX1_burnHour_40 rfl (hG).1 ((hG).2 6) (Or.inl rfl) ?_
    refine G.vret X dX1_burnHour_43 ⟨Nat.le_refl _, Nat.le_refl _⟩ ⟨rfl, rfl, rfl, rfl, ?_⟩
    simp only [mu, ms_ms, ms_same]
    first | rw [bi_t (by omega)] | rw [bi_f (by omega)]
  · refine G.iconst X 36 dX1_burnHour_35 rfl ?_
    refine G.goto X 40 dX1_burnHour_36 (by decide) ?_
    refine G.putZ X fl_X1_30 fi_1_6 43 dX1_burnHour_40 rfl (hG).1 ((hG).2 6) (Or.inr rfl) ?_
    refine G.vret X dX1_burnHour_43 ⟨Nat.le_refl _, Nat.le_refl _⟩ ⟨rfl, rfl, rfl, rfl, ?_⟩
    simp only [mu, ms_ms, ms_same]
    first | rw [bi_t (by omega)] | rw [bi_f (by omega)]
