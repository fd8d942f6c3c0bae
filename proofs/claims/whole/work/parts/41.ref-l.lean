set_option maxHeartbeats 1000000 in
set_option maxRecDepth 100000 in
theorem c_X6_undo0 (l : Launch) (D : xD) (Bs sz : Nat) (kd : xKd) (rf : xRf) (M : xM) (y : Nat) (sn : Option xR) (t : List Int) (hY : ShY kd rf y) (hM : MSt M y (M (y + 1)) [] sn t) : CtI l D Bs yX6_undo cX6_undo 2 (some .int) 0 [.ref y] sz kd rf M (fun q M' => q = -5 ∧ M' = M) := by
  refine Ctr.of (yv_X6_undo.1.2.2.2.2) (List.forall_mem_cons.mpr ⟨rfl, fun _ h => absurd h List.not_mem_nil⟩) (Nat.le_of_ble_eq_true rfl) [some (.ref y), none] rfl ?_
  intro p e s m args below meth c X hin
  refine G.aload_n X 1 dX6_undo_0 rfl rfl ?_
  refine G.getf (v := vi (0)) X fl_X6_32 4 dX6_undo_1 rfl (hY).1 ((xV_int ((hY).2.1 2 (by decide))).trans (congrArg vi ?_)) ?_
  · exact hM.2.1.1
  refine G.if_ne X 10 7 dX6_undo_4 (by decide) rfl (by omega) (fun hc4 => ?_) (fun hc4 => ?_)
  · exact absurd rfl hc4
  · refine G.bipush X 9 dX6_undo_7 rfl (by decide) ?_
    refine G.iret X dX6_undo_9 ⟨Nat.le_refl _, Nat.le_refl _⟩ ⟨rfl, rfl, rfl, _, rfl, ?_⟩
    exact ⟨rfl, rfl⟩
set_option maxHeartbeats 1000000 in
set_option maxRecDepth 100000 in
theorem c_X6_undo1 (l : Launch) (D : xD) (Bs sz : Nat) (kd : xKd) (rf : xRf) (M : xM) (y : Nat) (q0 : xR) (h : List xR) (sn : Option xR) (t : List Int) (hY : ShY kd rf y) (hM : MSt M y (M (y + 1)) (q0 :: h) sn t) (hz0 : ∀ z, 236 ≤ z → q0 z = (M (y + 1)) z) : CtI l D Bs yX6_undo cX6_undo 2 (some .int) 0 [.ref y] sz kd rf M (fun q M' => q = (h.length : Int) ∧ MSt M' y q0 h sn t ∧ Off M M' y 8) := by
  refine Ctr.of (yv_X6_undo.1.2.2.2.2) (List.forall_mem_cons.mpr ⟨rfl, fun _ h => absurd h List.not_mem_nil⟩) (Nat.le_of_ble_eq_true rfl) [some (.ref y), none] rfl ?_
  intro p e s m args below meth c X hin
  have hl5 := hM.2.1.2.1
  rw [List.length_cons] at hl5
  have hq0 : ∀ k, k < 236 → M (y + 2) (236 * h.length + k) = q0 k := fun k hk => by
    have h1 := hM.2.1.2.2 0 q0 rfl k hk
    rw [List.length_cons, show h.length + 1 - 1 - 0 = h.length by omega] at h1
    exact h1
  have L22 : ∀ (k : Nat) (i : Nat) (M1 : xM), i + k = 236 → (∀ a, a ≠ y + 1 → M1 a = (mu M y 2 (h.length : Int)) a) → (∀ z, z < i → M1 (y + 1) z = q0 z) → (∀ z, i ≤ z → M1 (y + 1) z = (M (y + 1)) z) → G p l e (rmd 0) s m args below meth c D Bs 2 0 0 (MQ below (xQ D Bs (pI sz kd rf (fun q M' => q = (h.length : Int) ∧ MSt M' y q0 h sn t ∧ Off M M' y 8))) args s 0 0 (fun q => Bs ≤ q)) sz kd rf (M1) 22 [some (.ref y), some (vi (i : Int))] [] := by
    intro k
    induction k with
    | zero =>
      intro i M1 hik hA hB hC
      obtain rfl : i = 236 := by omega
      refine G.iload_n X 23 dX6_undo_22 rfl rfl ?_
      refine G.sipush X 26 dX6_undo_23 rfl (by decide) ?_
      refine G.icmp_ge X 56 29 dX6_undo_26 (by decide) rfl (by omega) (by omega) (fun hc26 => ?_) (fun hc26 => ?_)
      · refine G.aload_n X 57 dX6_undo_56 rfl rfl ?_
        refine G.getf (v := vi ((h.length : Int))) X fl_X6_32 60 dX6_undo_57 rfl (hY).1 ((xV_int ((hY).2.1 2 (by decide))).trans (congrArg vi ?_)) ?_
        · rw [hA y (by omega)]
          exact mu_same
        refine G.iret X dX6_undo_60 ⟨Nat.le_refl _, Nat.le_refl _⟩ ⟨rfl, rfl, rfl, _, rfl, ?_⟩
        have hA2 : M1 (y + 2) = M (y + 2) := (hA _ (by omega)).trans (ms_ne (by omega))
        refine ⟨rfl, ⟨funext (fun z => ?_), ⟨?_, ?_, fun j q hj k hk => ?_⟩, ?_, fun q hq k hk => ?_, ⟨?_, hM.2.2.2.2.1.2⟩, fun j hj => ?_⟩, fun a ha => ?_⟩
        · by_cases hz : z < 236
          · exact hB z hz
          · rw [hC z (by omega)]
            exact (hz0 z (by omega)).symm
        · rw [hA y (by omega)]
          exact mu_same
        · omega
        · rw [hA2]
          have h1 := hM.2.1.2.2 (j + 1) q (by rw [List.getElem?_cons_succ]; exact hj) k hk
          rw [List.length_cons, show h.length + 1 - 1 - (j + 1) = h.length - 1 - j by omega] at h1
          exact h1
        · rw [hA y (by omega), mu_ne (Or.inr (by decide))]
          exact hM.2.2.1
        · rw [hA _ (by omega), mu_ne (Or.inl (by omega))]
          exact hM.2.2.2.1 q hq k hk
        · rw [hA y (by omega), mu_ne (Or.inr (by decide))]
          exact hM.2.2.2.2.1.1
        · rw [hA _ (by omega), mu_ne (Or.inl (by omega))]
          exact hM.2.2.2.2.2 j hj
        · rw [hA a (by omega)]
          exact ms_ne (by omega)
      · exfalso; omega
    | succ k ih =>
      intro i M1 hik hA hB hC
      refine G.iload_n X 23 dX6_undo_22 rfl rfl ?_
      refine G.sipush X 26 dX6_undo_23 rfl (by decide) ?_
      refine G.icmp_ge X 56 29 dX6_undo_26 (by decide) rfl (by omega) (by omega) (fun hc26 => ?_) (fun hc26 => ?_)
      · exfalso; omega
      · refine G.aload_n X 30 dX6_undo_29 rfl rfl ?_
        refine G.getR X fl_X6_7 33 dX6_undo_30 rfl (hY).1 (ShY.r0 hY) ?_
        refine G.iload_n X 34 dX6_undo_33 rfl rfl ?_
        refine G.aload_n X 35 dX6_undo_34 rfl rfl ?_
        refine G.getR X fl_X6_13 38 dX6_undo_35 rfl (hY).1 (ShY.r1 hY) ?_
        refine G.sipush X 41 dX6_undo_38 rfl (by decide) ?_
        refine G.aload_n X 42 dX6_undo_41 rfl rfl ?_
        refine G.getf (v := vi ((h.length : Int))) X fl_X6_32 45 dX6_undo_42 rfl (hY).1 ((xV_int ((hY).2.1 2 (by decide))).trans (congrArg vi ?_)) ?_
        · rw [hA y (by omega)]
          exact mu_same
        refine G.imul X 46 dX6_undo_45 rfl ?_
        refine G.iload_n X 47 dX6_undo_46 rfl rfl ?_
        refine G.iadd X 48 dX6_undo_47 rfl ?_
        refine G.iald X (i := (236 * h.length + i)) 49 dX6_undo_48 rfl ((ShY.a1 hY)).1 (((ShY.a1 hY)).2 _) (by omega) (by omega) (by decide) ?_
        rw [hA (y + 2) (by omega), show (mu M y 2 (h.length : Int)) (y + 2) = M (y + 2) from ms_ne (by omega), hq0 i (by omega)]
        refine G.iast X (i := (i)) 50 dX6_undo_49 rfl ((ShY.a0 hY)).1 (((ShY.a0 hY)).2 _) rfl (by omega) (by decide) ?_
        refine G.iinc (ls' := [_, _]) X 53 dX6_undo_50 rfl rfl (by decide) rfl ?_
        refine G.goto X 22 dX6_undo_53 (by decide) ?_
        refine ih (i + 1) _ (by omega) (fun a ha => (ms_ne ha).trans (hA a ha)) (fun z hz => ?_) (fun z hz => ?_)
        · by_cases e : z = i
          · subst e
            exact mu_same
          · rw [mu_ne (Or.inr e)]
            exact hB z (by omega)
        · rw [mu_ne (Or.inr (by omega))]
          exact hC z (by omega)
  refine G.aload_n X 1 dX6_undo_0 rfl rfl ?_
  refine G.getf (v := vi (((h.length : Int) + 1))) X fl_X6_32 4 dX6_undo_1 rfl (hY).1 ((xV_int ((hY).2.1 2 (by decide))).trans (congrArg vi ?_)) ?_
  · have e := hM.2.1.1
    rw [List.length_cons] at e
    omega
  refine G.if_ne X 10 7 dX6_undo_4 (by decide) rfl (by omega) (fun hc4 => ?_) (fun hc4 => ?_)
  · refine G.aload_n X 11 dX6_undo_10 rfl rfl ?_
    refine G.dup X 12 dX6_undo_11 rfl rfl ?_
    refine G.getf (v := vi (((h.length : Int) + 1))) X fl_X6_32 15 dX6_undo_12 rfl (hY).1 ((xV_int ((hY).2.1 2 (by decide))).trans (congrArg vi ?_)) ?_
    · have e := hM.2.1.1
      rw [List.length_cons] at e
      omega
    refine G.iconst X 16 dX6_undo_15 rfl ?_
    refine G.isub X 17 dX6_undo_16 rfl ?_
    refine G.putI X fl_X6_32 fi_6_2 rfl 20 dX6_undo_17 rfl (hY).1 ((hY).2.1 2 (by decide)) ?_
    refine G.iconst X 21 dX6_undo_20 rfl ?_
    refine G.istore_n (ls' := [_, _]) X 22 dX6_undo_21 rfl (by decide) rfl ?_
    exact L22 236 0 _ (by omega) (fun a _ => by rw [show (h.length : Int) + 1 - 1 = (h.length : Int) by omega]) (fun z hz => absurd hz (Nat.not_lt_zero z)) (fun z _ => mu_ne (Or.inl (by omega)))
  · exfalso; omega
