set_option maxHeartbeats 1000000 in
set_option maxRecDepth 100000 in
theorem c_X6_type (l : Launch) (D : xD) (Bs sz : Nat) (kd : xKd) (rf : xRf) (M : xM) (y : Nat) (h : List xR) (sn : Option xR) (t : List Int) (x : Int) (hY : ShY kd rf y) (hM : MSt M y (M (y + 1)) h sn t) (rx : 0 ≤ x ∧ x < 65536) : CtI l D Bs yX6_type cX6_type 2 (some .int) 0 [.ref y, vi x] sz kd rf M (fun q M' => 60 ≤ t.length ∧ q = -3 ∧ M' = M ∨ t.length < 60 ∧ q = (t.length : Int) + 1 ∧ MSt M' y (M (y + 1)) h sn (t ++ [x]) ∧ Off M M' y 8) := by
  refine Ctr.of (yv_X6_type.1.2.2.2.2) (List.forall_mem_cons.mpr ⟨rfl, List.forall_mem_cons.mpr ⟨rfl, fun _ h => absurd h List.not_mem_nil⟩⟩) (Nat.le_of_ble_eq_true rfl) [some (.ref y), some (vi x)] rfl ?_
  intro p e s m args below meth c X hin
  obtain ⟨⟨t1, t2⟩, t3⟩ := id hM.2.2.2.2
  refine G.aload_n X 1 dX6_type_0 rfl rfl ?_
  refine G.getf (v := vi ((t.length : Int))) X fl_X6_140 4 dX6_type_1 rfl (hY).1 ((xV_int ((hY).2.1 7 (by decide))).trans (congrArg vi ?_)) ?_
  · exact t1
  refine G.bipush X 6 dX6_type_4 rfl (by decide) ?_
  refine G.icmp_ne X 12 9 dX6_type_6 (by decide) rfl (by omega) (by omega) (fun hc6 => ?_) (fun hc6 => ?_)
  · refine G.aload_n X 13 dX6_type_12 rfl rfl ?_
    refine G.getR X fl_X6_25 16 dX6_type_13 rfl (hY).1 (ShY.r8 hY) ?_
    refine G.aload_n X 17 dX6_type_16 rfl rfl ?_
    refine G.getf (v := vi ((t.length : Int))) X fl_X6_140 20 dX6_type_17 rfl (hY).1 ((xV_int ((hY).2.1 7 (by decide))).trans (congrArg vi ?_)) ?_
    · exact t1
    refine G.iload_n X 21 dX6_type_20 rfl rfl ?_
    refine G.cast X (i := t.length) 22 dX6_type_21 rfl ((ShY.a8 hY)).1 (((ShY.a8 hY)).2 _) rfl (by omega) (by decide) (by omega) ?_
    refine G.aload_n X 23 dX6_type_22 rfl rfl ?_
    refine G.dup X 24 dX6_type_23 rfl rfl ?_
    refine G.getf (v := vi ((t.length : Int))) X fl_X6_140 27 dX6_type_24 rfl (hY).1 ((xV_int ((hY).2.1 7 (by decide))).trans (congrArg vi ?_)) ?_
    · rw [mu_ne (Or.inl (by omega))]
      exact t1
    refine G.iconst X 28 dX6_type_27 rfl ?_
    refine G.iadd X 29 dX6_type_28 rfl ?_
    refine G.putI X fl_X6_140 fi_6_7 rfl 32 dX6_type_29 rfl (hY).1 ((hY).2.1 7 (by decide)) ?_
    refine G.aload_n X 33 dX6_type_32 rfl rfl ?_
    refine G.getf (v := vi (((t.length : Int) + 1))) X fl_X6_140 36 dX6_type_33 rfl (hY).1 ((xV_int ((hY).2.1 7 (by decide))).trans (congrArg vi ?_)) ?_
    · exact mu_same
    refine G.iret X dX6_type_36 ⟨Nat.le_refl _, Nat.le_refl _⟩ ⟨rfl, rfl, rfl, _, rfl, ?_⟩
    refine Or.inr ⟨by omega, rfl, hM.off ((ms_ne (by omega)).trans (ms_ne (by omega))) ((ms_ne (by omega)).trans (ms_ne (by omega))) ((ms_ne (by omega)).trans (ms_ne (by omega))) ((mu_ne (Or.inr (by decide))).trans (mu_ne (Or.inl (by omega)))) ((mu_ne (Or.inr (by decide))).trans (mu_ne (Or.inl (by omega)))) ⟨⟨?_, ?_⟩, fun j hj => ?_⟩, Off.mu (Off.mu Off.rf (by omega)) (by omega)⟩
    · rw [mu_same, List.length_append]
      rfl
    · rw [List.length_append]
      show t.length + 1 ≤ 60
      omega
    · rw [List.length_append] at hj
      rw [mu_ne (Or.inl (by omega))]
      by_cases e : j = t.length
      · subst e
        rw [mu_same]
        simp [List.getD_eq_getElem?_getD]
      · have hj2 : j < t.length := by
          have : j < t.length + 1 := hj
          omega
        rw [mu_ne (Or.inr e), t3 j hj2]
        simp [List.getD_eq_getElem?_getD, List.getElem?_append_left hj2]
  · refine G.bipush X 11 dX6_type_9 rfl (by decide) ?_
    refine G.iret X dX6_type_11 ⟨Nat.le_refl _, Nat.le_refl _⟩ ⟨rfl, rfl, rfl, _, rfl, ?_⟩
    exact Or.inl ⟨by omega, rfl, rfl⟩
