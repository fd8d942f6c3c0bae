set_option maxHeartbeats 1000000 in
set_option maxRecDepth 100000 in
theorem c_X6_why (l : Launch) (D : xD) (Bs sz : Nat) (kd : xKd) (rf : xRf) (M : xM) (y : Nat) (x : Int) (hY : ShY kd rf y) (hV : Vk (M (y + 1))) (rx : IR x) : CtI l D Bs yX6_why cX6_why 2 (some .int) 2 [.ref y, vi x] sz kd rf M (fun q M' => q = whyF x (M (y + 1)) ∧ M' = M) := by
  refine Ctr.of (yv_X6_why.1.2.2.2.2) (List.forall_mem_cons.mpr ⟨rfl, List.forall_mem_cons.mpr ⟨rfl, fun _ h => absurd h List.not_mem_nil⟩⟩) (Nat.le_of_ble_eq_true rfl) [some (.ref y), some (vi x)] rfl ?_
  intro p e s m args below meth c X hin
  obtain ⟨n6, n6b⟩ := hV.n6
  obtain ⟨n7, n7b⟩ := hV.n7
  obtain ⟨hv0, -, -, -, -, -⟩ := hV.1
  refine G.aload_n X 1 dX6_why_0 rfl rfl ?_
  refine G.iload_n X 2 dX6_why_1 rfl rfl ?_
  refine G.vI1 (d := 1) X ml_X6_84 yv_X6_noSite 5 dX6_why_2 rfl (c_X6_noSite l D Bs _ kd rf _ y _ hY hV (by omega)) ⟨_, _, (hY).1, rfl, rfl⟩ (by decide) ⟨Nat.zero_le _, Nat.zero_le _⟩ (Nat.le_of_ble_eq_true rfl) (fun r2 M2 h2 => ?_)
  obtain ⟨hr2, hm2⟩ := h2
  subst hr2
  obtain rfl := hm2.symm
  refine G.ifb_eq X 10 8 dX6_why_5 (by decide) rfl (fun hc5 => ?_) (fun hc5 => ?_)
  · obtain ⟨j, rfl⟩ : ∃ j : Nat, x = (j : Int) := ⟨x.toNat, by omega⟩
    obtain ⟨-, -, w2, w3, w4, -, -⟩ := hV.2.2 (j) (by omega)
    refine G.aload_n X 11 dX6_why_10 rfl rfl ?_
    refine G.iload_n X 12 dX6_why_11 rfl rfl ?_
    refine G.vI1 (d := 1) X ml_X6_101 yv_X6_isOpen 15 dX6_why_12 rfl (c_X6_isOpen l D Bs _ kd rf _ y j hY hV (by omega)) ⟨_, _, (hY).1, rfl, rfl⟩ (by decide) ⟨Nat.zero_le _, Nat.zero_le _⟩ (Nat.le_of_ble_eq_true rfl) (fun r12 M12 h12 => ?_)
    obtain ⟨hr12, hm12⟩ := h12
    subst hr12
    obtain rfl := hm12.symm
    refine G.ifb_ne X 21 18 dX6_why_15 (by decide) rfl (fun hc15 => ?_) (fun hc15 => ?_)
    · refine G.aload_n X 22 dX6_why_21 rfl rfl ?_
      refine G.iload_n X 23 dX6_why_22 rfl rfl ?_
      refine G.vI1 (d := 1) X ml_X6_81 yv_X6_setAt 26 dX6_why_23 rfl (c_X6_setAt l D Bs _ kd rf _ y j hY (by omega)) ⟨_, _, (hY).1, rfl, rfl⟩ (by decide) ⟨Nat.zero_le _, Nat.zero_le _⟩ (Nat.le_of_ble_eq_true rfl) (fun r23 M23 h23 => ?_)
      obtain ⟨hr23, hm23⟩ := h23
      subst hr23
      obtain rfl := hm23.symm
      refine G.if_ge X 33 29 dX6_why_26 (by decide) rfl (by omega) (fun hc26 => ?_) (fun hc26 => ?_)
      · obtain ⟨hh, hhe⟩ := hasN_lt hV (show j < nC (M (y + 1)) by omega) (by omega)
        refine G.aload_n X 34 dX6_why_33 rfl rfl ?_
        refine G.aload_n X 35 dX6_why_34 rfl rfl ?_
        refine G.iload_n X 36 dX6_why_35 rfl rfl ?_
        refine G.vI1 (d := 1) X ml_X6_81 yv_X6_setAt 39 dX6_why_36 rfl (c_X6_setAt l D Bs _ kd rf _ y j hY (by omega)) ⟨_, _, (hY).1, rfl, rfl⟩ (by decide) ⟨Nat.zero_le _, Nat.zero_le _⟩ (Nat.le_of_ble_eq_true rfl) (fun r36 M36 h36 => ?_)
        obtain ⟨hr36, hm36⟩ := h36
        obtain rfl : r36 = (hasN (M (y + 1)) j : Int) := by omega
        obtain rfl := hm36.symm
        refine G.vI1 (d := 1) X ml_X6_125 yv_X6_against 42 dX6_why_39 rfl (c_X6_against l D Bs _ kd rf _ y (hasN (M (y + 1)) j) hY hV hh) ⟨_, _, (hY).1, rfl, rfl⟩ (by decide) ⟨Nat.zero_le _, Nat.zero_le _⟩ (Nat.le_of_ble_eq_true rfl) (fun r39 M39 h39 => ?_)
        obtain ⟨hr39, hm39⟩ := h39
        subst hr39
        obtain rfl := hm39.symm
        refine G.iret X dX6_why_42 ⟨Nat.le_refl _, Nat.le_refl _⟩ ⟨rfl, rfl, rfl, _, rfl, ?_⟩
        unfold whyF
        simp only [Int.toNat_natCast]
        rw [if_neg (by omega), if_neg (by omega)]
        unfold causeR
        first
          | exact ⟨(if_pos (by omega)).symm, by trivial⟩
          | exact ⟨(if_neg (by omega)).symm, by trivial⟩
      · refine G.iconst X 30 dX6_why_29 rfl ?_
        refine G.goto X 42 dX6_why_30 (by decide) ?_
        refine G.iret X dX6_why_42 ⟨Nat.le_refl _, Nat.le_refl _⟩ ⟨rfl, rfl, rfl, _, rfl, ?_⟩
        unfold whyF
        simp only [Int.toNat_natCast]
        rw [if_neg (by omega), if_neg (by omega)]
        unfold causeR
        first
          | exact ⟨(if_pos (by omega)).symm, by trivial⟩
          | exact ⟨(if_neg (by omega)).symm, by trivial⟩
    · refine G.bipush X 20 dX6_why_18 rfl (by decide) ?_
      refine G.iret X dX6_why_20 ⟨Nat.le_refl _, Nat.le_refl _⟩ ⟨rfl, rfl, rfl, _, rfl, ?_⟩
      unfold whyF
      simp only [Int.toNat_natCast]
      rw [if_neg (by omega), if_pos (by omega)]
      exact ⟨rfl, by trivial⟩
  · refine G.iconst X 9 dX6_why_8 rfl ?_
    refine G.iret X dX6_why_9 ⟨Nat.le_refl _, Nat.le_refl _⟩ ⟨rfl, rfl, rfl, _, rfl, ?_⟩
    unfold whyF
    rw [if_pos (by omega)]
    exact ⟨rfl, rfl⟩
