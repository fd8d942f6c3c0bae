theorem nthF_eq {L : List Nat} {x : Int} (h : ¬ x < 0) : nthN L x = nthF L x := by
  unfold nthF nthN
  rw [if_neg h]
  by_cases h2 : x < L.length
  · rw [if_pos ⟨by omega, h2⟩, if_pos h2]
  · rw [if_neg (fun q => h2 q.2), if_neg h2]
set_option maxHeartbeats 1000000 in
set_option maxRecDepth 100000 in
theorem c_X6_needy (l : Launch) (D : xD) (Bs sz : Nat) (kd : xKd) (rf : xRf) (M : xM) (y : Nat) (x : Int) (hY : ShY kd rf y) (hV : Vk (M (y + 1))) (rx : IR x) : CtI l D Bs yX6_needy cX6_needy 2 (some .int) 3 [.ref y, vi x] sz kd rf M (fun q M' => q = nthF (needL (M (y + 1))) x ∧ M' = M) := by
  refine Ctr.of (yv_X6_needy.1.2.2.2.2) (List.forall_mem_cons.mpr ⟨rfl, List.forall_mem_cons.mpr ⟨rfl, fun _ h => absurd h List.not_mem_nil⟩⟩) (Nat.le_of_ble_eq_true rfl) [some (.ref y), some (vi x)] rfl ?_
  intro p e s m args below meth c X hin
  refine G.iload_n X 1 dX6_needy_0 rfl rfl ?_
  refine G.if_ge X 9 4 dX6_needy_1 (by decide) rfl (by omega) (fun hc1 => ?_) (fun hc1 => ?_)
  · refine G.aload_n X 10 dX6_needy_9 rfl rfl ?_
    refine G.iload_n X 11 dX6_needy_10 rfl rfl ?_
    refine G.vI1 (d := 2) X ml_X6_113 yv_X6_needyAt 14 dX6_needy_11 rfl (c_X6_needyAt l D Bs _ kd rf _ y _ hY hV (by omega)) ⟨_, _, (hY).1, rfl, rfl⟩ (by decide) ⟨Nat.zero_le _, Nat.zero_le _⟩ (Nat.le_of_ble_eq_true rfl) (fun r11 M11 h11 => ?_)
    obtain ⟨hr11, hm11⟩ := h11
    subst hr11
    obtain rfl := hm11.symm
    refine G.iret X dX6_needy_14 ⟨Nat.le_refl _, Nat.le_refl _⟩ ⟨rfl, rfl, rfl, _, rfl, ?_⟩
    first
      | exact ⟨nthF_eq (by omega), rfl⟩
      | exact ⟨by unfold nthF; exact (if_pos (by omega)).symm, rfl⟩
  · refine G.bipush X 6 dX6_needy_4 rfl (by decide) ?_
    refine G.goto X 14 dX6_needy_6 (by decide) ?_
    refine G.iret X dX6_needy_14 ⟨Nat.le_refl _, Nat.le_refl _⟩ ⟨rfl, rfl, rfl, _, rfl, ?_⟩
    first
      | exact ⟨nthF_eq (by omega), rfl⟩
      | exact ⟨by unfold nthF; exact (if_pos (by omega)).symm, rfl⟩
set_option maxHeartbeats 1000000 in
set_option maxRecDepth 100000 in
theorem c_X6_thirsty (l : Launch) (D : xD) (Bs sz : Nat) (kd : xKd) (rf : xRf) (M : xM) (y : Nat) (x : Int) (hY : ShY kd rf y) (hV : Vk (M (y + 1))) (rx : IR x) : CtI l D Bs yX6_thirsty cX6_thirsty 2 (some .int) 3 [.ref y, vi x] sz kd rf M (fun q M' => q = nthF (thirL (M (y + 1))) x ∧ M' = M) := by
  refine Ctr.of (yv_X6_thirsty.1.2.2.2.2) (List.forall_mem_cons.mpr ⟨rfl, List.forall_mem_cons.mpr ⟨rfl, fun _ h => absurd h List.not_mem_nil⟩⟩) (Nat.le_of_ble_eq_true rfl) [some (.ref y), some (vi x)] rfl ?_
  intro p e s m args below meth c X hin
  refine G.iload_n X 1 dX6_thirsty_0 rfl rfl ?_
  refine G.if_ge X 9 4 dX6_thirsty_1 (by decide) rfl (by omega) (fun hc1 => ?_) (fun hc1 => ?_)
  · refine G.aload_n X 10 dX6_thirsty_9 rfl rfl ?_
    refine G.iload_n X 11 dX6_thirsty_10 rfl rfl ?_
    refine G.vI1 (d := 2) X ml_X6_122 yv_X6_thirstyAt 14 dX6_thirsty_11 rfl (c_X6_thirstyAt l D Bs _ kd rf _ y _ hY hV (by omega)) ⟨_, _, (hY).1, rfl, rfl⟩ (by decide) ⟨Nat.zero_le _, Nat.zero_le _⟩ (Nat.le_of_ble_eq_true rfl) (fun r11 M11 h11 => ?_)
    obtain ⟨hr11, hm11⟩ := h11
    subst hr11
    obtain rfl := hm11.symm
    refine G.iret X dX6_thirsty_14 ⟨Nat.le_refl _, Nat.le_refl _⟩ ⟨rfl, rfl, rfl, _, rfl, ?_⟩
    first
      | exact ⟨nthF_eq (by omega), rfl⟩
      | exact ⟨by unfold nthF; exact (if_pos (by omega)).symm, rfl⟩
  · refine G.bipush X 6 dX6_thirsty_4 rfl (by decide) ?_
    refine G.goto X 14 dX6_thirsty_6 (by decide) ?_
    refine G.iret X dX6_thirsty_14 ⟨Nat.le_refl _, Nat.le_refl _⟩ ⟨rfl, rfl, rfl, _, rfl, ?_⟩
    first
      | exact ⟨nthF_eq (by omega), rfl⟩
      | exact ⟨by unfold nthF; exact (if_pos (by omega)).symm, rfl⟩
