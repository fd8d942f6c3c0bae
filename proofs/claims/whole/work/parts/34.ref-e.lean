set_option maxHeartbeats 1000000 in
set_option maxRecDepth 100000 in
theorem c_X6_goesOnFor (l : Launch) (D : xD) (Bs sz : Nat) (kd : xKd) (rf : xRf) (M : xM) (y n : Nat) (hY : ShY kd rf y) (hW : Vr (M (y + 1))) (h0 : (M (y + 1)) 0 + n ≤ 999) : CtI l D Bs yX6_goesOnFor cX6_goesOnFor 4 (some .int) 4 [.ref y, vi (n : Int)] sz kd rf M (fun q M' => q = hoursR (M (y + 1)) n 8 - (M (y + 1)) 8 ∧ M' = ms M (y + 1) (hoursR (M (y + 1)) n)) := by
  refine Ctr.of (yv_X6_goesOnFor.1.2.2.2.2) (List.forall_mem_cons.mpr ⟨rfl, List.forall_mem_cons.mpr ⟨rfl, fun _ h => absurd h List.not_mem_nil⟩⟩) (Nat.le_of_ble_eq_true rfl) [some (.ref y), some (vi (n : Int)), none, none] rfl ?_
  intro p e s m args below meth c X hin
  have hV := hW.k
  obtain ⟨hv0, -, -, -, -, -⟩ := hV.1
  have L4 : ∀ (k : Nat) (i : Nat) (q : Int) (M1 : xM), i + k = n → q = hoursR (M (y + 1)) i 8 - (M (y + 1)) 8 → M1 = ms M (y + 1) (hoursR (M (y + 1)) i) → G p l e (rmd 4) s m args below meth c D Bs 4 0 0 (MQ below (xQ D Bs (pI sz kd rf (fun q M' => q = hoursR (M (y + 1)) n 8 - (M (y + 1)) 8 ∧ M' = ms M (y + 1) (hoursR (M (y + 1)) n)))) args s 0 0 (fun q => Bs ≤ q)) sz kd rf (M1) 4 [some (.ref y), some (vi (n : Int)), some (vi q), some (vi (i : Int))] [] := by
    intro k
    induction k with
    | zero =>
      intro i q M1 hik hq hM1
      have hr1 : M1 (y + 1) = hoursR (M (y + 1)) i := by rw [hM1, ms_same]
      have hWi : Vr (M1 (y + 1)) := by rw [hr1]; exact hW.hours i (by omega)
      have e0 : M1 (y + 1) 0 = (M (y + 1)) 0 + i := by rw [hr1]; exact (hoursR_n (M (y + 1)) i).2.2.1
      obtain rfl : i = n := by omega
      refine G.iload_n X 5 dX6_goesOnFor_4 rfl rfl ?_
      refine G.iload_n X 6 dX6_goesOnFor_5 rfl rfl ?_
      refine G.icmp_ge X 22 9 dX6_goesOnFor_6 (by decide) rfl (by omega) (by omega) (fun hc6 => ?_) (fun hc6 => ?_)
      · refine G.iload_n X 23 dX6_goesOnFor_22 rfl rfl ?_
        refine G.iret X dX6_goesOnFor_23 ⟨Nat.le_refl _, Nat.le_refl _⟩ ⟨rfl, rfl, rfl, _, rfl, ?_⟩
        exact ⟨hq, hM1⟩
      · exfalso; omega
    | succ k ih =>
      intro i q M1 hik hq hM1
      have hr1 : M1 (y + 1) = hoursR (M (y + 1)) i := by rw [hM1, ms_same]
      have hWi : Vr (M1 (y + 1)) := by rw [hr1]; exact hW.hours i (by omega)
      have e0 : M1 (y + 1) 0 = (M (y + 1)) 0 + i := by rw [hr1]; exact (hoursR_n (M (y + 1)) i).2.2.1
      refine G.iload_n X 5 dX6_goesOnFor_4 rfl rfl ?_
      refine G.iload_n X 6 dX6_goesOnFor_5 rfl rfl ?_
      refine G.icmp_ge X 22 9 dX6_goesOnFor_6 (by decide) rfl (by omega) (by omega) (fun hc6 => ?_) (fun hc6 => ?_)
      · exfalso; omega
      · refine G.iload_n X 10 dX6_goesOnFor_9 rfl rfl ?_
        refine G.aload_n X 11 dX6_goesOnFor_10 rfl rfl ?_
        refine G.vI0 (d := 3) X ml_X6_134 yv_X6_goesOn 14 dX6_goesOnFor_11 rfl (c_X6_goesOn l D Bs _ kd rf _ y hY hWi (by omega)) ⟨_, _, (hY).1, rfl, rfl⟩ (by decide) ⟨Nat.zero_le _, Nat.zero_le _⟩ (Nat.le_of_ble_eq_true rfl) (fun r11 M11 h11 => ?_)
        refine G.iadd X 15 dX6_goesOnFor_14 rfl ?_
        refine G.istore_n (ls' := [_, _, _, _]) X 16 dX6_goesOnFor_15 rfl (by decide) rfl ?_
        refine G.iinc (ls' := [_, _, _, _]) X 19 dX6_goesOnFor_16 rfl rfl (by decide) rfl ?_
        refine G.goto X 4 dX6_goesOnFor_19 (by decide) ?_
        refine ih (i + 1) _ _ (by omega) ?_ ?_
        · rw [hoursR_s, ← hr1]
          have h1 := h11.1
          have e8 := congrFun hr1 8
          omega
        · rw [hoursR_s, ← hr1, h11.2, hM1, ms_ms]
  refine G.iconst X 1 dX6_goesOnFor_0 rfl ?_
  refine G.istore_n (ls' := [_, _, _, _]) X 2 dX6_goesOnFor_1 rfl (by decide) rfl ?_
  refine G.iconst X 3 dX6_goesOnFor_2 rfl ?_
  refine G.istore_n (ls' := [_, _, _, _]) X 4 dX6_goesOnFor_3 rfl (by decide) rfl ?_
  exact L4 n 0 0 M (by omega) (Int.sub_self _).symm ms_self.symm
