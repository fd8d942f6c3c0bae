def rowI : xR := fu (fu z0 1 5) 2 10
theorem St.init {M : xM} {b : Nat} (h : M b 0 = 0 ∧ M b 1 = 5 ∧ M b 2 = 10 ∧ ∀ k, 3 ≤ k → k < 9 → M b k = 0) : St M b rowI := by
  obtain ⟨h0, h1, h2, hz⟩ := h
  refine ⟨⟨h0, h1, h2, hz 3 (by decide) (by decide), hz 4 (by decide) (by decide), hz 5 (by decide) (by decide), hz 6 (by decide) (by decide), hz 7 (by decide) (by decide), hz 8 (by decide) (by decide)⟩, fun i hi => ?_, fun i hi => ?_⟩
  · have e : nS rowI = 0 := rfl
    omega
  · have e : nC rowI = 0 := rfl
    omega
theorem Vr.init : Vr rowI := by
  refine ⟨⟨⟨?_, ?_, ?_, ?_, ?_, ?_⟩, fun i hi => ?_, fun i hi => ?_⟩, rfl, rfl, rfl⟩
  · exact ⟨Int.le_refl 0, show (0 : Int) ≤ 999 by decide⟩
  · exact ⟨show (-30 : Int) ≤ 5 by decide, show (5 : Int) ≤ 20 by decide⟩
  · exact ⟨show (1 : Int) ≤ 10 by decide, show (10 : Int) ≤ 99 by decide⟩
  · exact ⟨Int.le_refl 0, show (0 : Int) ≤ 50000 by decide⟩
  · exact ⟨Int.le_refl 0, show (0 : Int) ≤ 10 by decide⟩
  · exact ⟨Int.le_refl 0, show (0 : Int) ≤ 12 by decide⟩
  · have e : nS rowI = 0 := rfl
    omega
  · have e : nC rowI = 0 := rfl
    omega
