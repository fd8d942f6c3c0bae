theorem fS_fuS {r : xR} {m k' i k : Nat} {x : Int} (hk' : k' < 10) (hk : k < 10) : fS (fu r (16 + 10 * m + k') x) i k = if i = m ∧ k = k' then x else fS r i k := by
  unfold fS
  rw [fu_at]
  by_cases h : i = m ∧ k = k'
  · obtain ⟨rfl, rfl⟩ := h
    simp
  · rw [if_neg h, if_neg (by omega)]
theorem fC_fuC {r : xR} {m k' i k : Nat} {x : Int} (hk' : k' < 10) (hk : k < 10) : fC (fu r (116 + 10 * m + k') x) i k = if i = m ∧ k = k' then x else fC r i k := by
  unfold fC
  rw [fu_at]
  by_cases h : i = m ∧ k = k'
  · obtain ⟨rfl, rfl⟩ := h
    simp
  · rw [if_neg h, if_neg (by omega)]
theorem fS_fuC {r : xR} {m k' i k : Nat} {x : Int} (hi : i < 10) (hk : k < 10) : fS (fu r (116 + 10 * m + k') x) i k = fS r i k := by
  unfold fS
  rw [fu_ne (by omega)]
theorem fC_fuS {r : xR} {m k' i k : Nat} {x : Int} (hm : m < 10) (hk' : k' < 10) : fC (fu r (16 + 10 * m + k') x) i k = fC r i k := by
  unfold fC
  rw [fu_ne (by omega)]
theorem fS_fu0 {r : xR} {j i k : Nat} {x : Int} (hj : j < 16) : fS (fu r j x) i k = fS r i k := by
  unfold fS
  rw [fu_ne (by omega)]
theorem fC_fu0 {r : xR} {j i k : Nat} {x : Int} (hj : j < 16) : fC (fu r j x) i k = fC r i k := by
  unfold fC
  rw [fu_ne (by omega)]
theorem at_fuS {r : xR} {m k j : Nat} {x : Int} (hj : j < 16) : fu r (16 + 10 * m + k) x j = r j := fu_ne (by omega)
theorem at_fuC {r : xR} {m k j : Nat} {x : Int} (hj : j < 16) : fu r (116 + 10 * m + k) x j = r j := fu_ne (by omega)
theorem nS_fuS {r : xR} {m k : Nat} {x : Int} : nS (fu r (16 + 10 * m + k) x) = nS r := by unfold nS; rw [at_fuS (by omega)]
theorem nS_fuC {r : xR} {m k : Nat} {x : Int} : nS (fu r (116 + 10 * m + k) x) = nS r := by unfold nS; rw [at_fuC (by omega)]
theorem nC_fuS {r : xR} {m k : Nat} {x : Int} : nC (fu r (16 + 10 * m + k) x) = nC r := by unfold nC; rw [at_fuS (by omega)]
theorem nC_fuC {r : xR} {m k : Nat} {x : Int} : nC (fu r (116 + 10 * m + k) x) = nC r := by unfold nC; rw [at_fuC (by omega)]
theorem nS_fu0 {r : xR} {j : Nat} {x : Int} (hj : j ≠ 6) : nS (fu r j x) = nS r := by unfold nS; rw [fu_ne (Ne.symm hj)]
theorem nC_fu0 {r : xR} {j : Nat} {x : Int} (hj : j ≠ 7) : nC (fu r j x) = nC r := by unfold nC; rw [fu_ne (Ne.symm hj)]
/-! one number of the class's State, and of the row -/
theorem St.setG {M : xM} {b m k : Nat} {r : xR} {x : Int} (h : St M b r) (hm : m < 10) (hn : nS r ≤ 10 ∧ nC r ≤ 12) (hk : k < 9) (hk5 : k ≠ 5) : St (mu M (b + 3 + m) k x) b (fu r (16 + 10 * m + k) x) := by
  refine ⟨?_, fun i hi => ?_, fun i hi => ?_⟩
  · simp only [mu_ne (Or.inl (show b ≠ b + 3 + m by omega)), at_fuS (show (0 : Nat) < 16 by decide), at_fuS (show (1 : Nat) < 16 by decide), at_fuS (show (2 : Nat) < 16 by decide), at_fuS (show (3 : Nat) < 16 by decide), at_fuS (show (4 : Nat) < 16 by decide), at_fuS (show (5 : Nat) < 16 by decide), at_fuS (show (6 : Nat) < 16 by decide), at_fuS (show (7 : Nat) < 16 by decide), at_fuS (show (11 : Nat) < 16 by decide)]
    exact h.1
  · rw [nS_fuS] at hi
    have g := h.2.1 i hi
    unfold Gen at g ⊢
    by_cases e : i = m
    · subst e
      simp only [mu_read, fS_fuS (show k < 10 by omega) (show (0 : Nat) < 10 by decide), fS_fuS (show k < 10 by omega) (show (1 : Nat) < 10 by decide), fS_fuS (show k < 10 by omega) (show (2 : Nat) < 10 by decide), fS_fuS (show k < 10 by omega) (show (3 : Nat) < 10 by decide), fS_fuS (show k < 10 by omega) (show (4 : Nat) < 10 by decide), fS_fuS (show k < 10 by omega) (show (5 : Nat) < 10 by decide), fS_fuS (show k < 10 by omega) (show (6 : Nat) < 10 by decide), fS_fuS (show k < 10 by omega) (show (7 : Nat) < 10 by decide), fS_fuS (show k < 10 by omega) (show (8 : Nat) < 10 by decide)]
      rcases (by omega : k = 0 ∨ k = 1 ∨ k = 2 ∨ k = 3 ∨ k = 4 ∨ k = 6 ∨ k = 7 ∨ k = 8) with e | e | e | e | e | e | e | e <;> subst e <;> simp <;> omega
    · simp only [mu_ne (Or.inl (show b + 3 + i ≠ b + 3 + m by omega)), fS_fuS (show k < 10 by omega) (show (0 : Nat) < 10 by decide), fS_fuS (show k < 10 by omega) (show (1 : Nat) < 10 by decide), fS_fuS (show k < 10 by omega) (show (2 : Nat) < 10 by decide), fS_fuS (show k < 10 by omega) (show (3 : Nat) < 10 by decide), fS_fuS (show k < 10 by omega) (show (4 : Nat) < 10 by decide), fS_fuS (show k < 10 by omega) (show (5 : Nat) < 10 by decide), fS_fuS (show k < 10 by omega) (show (6 : Nat) < 10 by decide), fS_fuS (show k < 10 by omega) (show (7 : Nat) < 10 by decide), fS_fuS (show k < 10 by omega) (show (8 : Nat) < 10 by decide), e, false_and, if_false]
      exact g
  · rw [nC_fuS] at hi
    have g := h.2.2 i hi
    unfold Cus at g ⊢
    simp only [mu_ne (Or.inl (show b + 13 + i ≠ b + 3 + m by omega)), fC_fuS hm (show k < 10 by omega)]
    exact g
theorem St.setG5 {M : xM} {b m : Nat} {r : xR} {x y : Int} (h : St M b r) (hm : m < 10) (hn : nS r ≤ 10 ∧ nC r ≤ 12) (hxy : x = 0 ∧ y = -5 ∨ 0 < x ∧ y = x - 1) : St (mu M (b + 3 + m) 5 y) b (fu r (16 + 10 * m + 5) x) := by
  refine ⟨?_, fun i hi => ?_, fun i hi => ?_⟩
  · simp only [mu_ne (Or.inl (show b ≠ b + 3 + m by omega)), at_fuS (show (0 : Nat) < 16 by decide), at_fuS (show (1 : Nat) < 16 by decide), at_fuS (show (2 : Nat) < 16 by decide), at_fuS (show (3 : Nat) < 16 by decide), at_fuS (show (4 : Nat) < 16 by decide), at_fuS (show (5 : Nat) < 16 by decide), at_fuS (show (6 : Nat) < 16 by decide), at_fuS (show (7 : Nat) < 16 by decide), at_fuS (show (11 : Nat) < 16 by decide)]
    exact h.1
  · rw [nS_fuS] at hi
    have g := h.2.1 i hi
    unfold Gen at g ⊢
    by_cases e : i = m
    · subst e
      simp [mu_read, fS_fuS]
      omega
    · simp only [mu_ne (Or.inl (show b + 3 + i ≠ b + 3 + m by omega)), fS_fuS (show (5 : Nat) < 10 by omega) (show (0 : Nat) < 10 by decide), fS_fuS (show (5 : Nat) < 10 by omega) (show (1 : Nat) < 10 by decide), fS_fuS (show (5 : Nat) < 10 by omega) (show (2 : Nat) < 10 by decide), fS_fuS (show (5 : Nat) < 10 by omega) (show (3 : Nat) < 10 by decide), fS_fuS (show (5 : Nat) < 10 by omega) (show (4 : Nat) < 10 by decide), fS_fuS (show (5 : Nat) < 10 by omega) (show (5 : Nat) < 10 by decide), fS_fuS (show (5 : Nat) < 10 by omega) (show (6 : Nat) < 10 by decide), fS_fuS (show (5 : Nat) < 10 by omega) (show (7 : Nat) < 10 by decide), fS_fuS (show (5 : Nat) < 10 by omega) (show (8 : Nat) < 10 by decide), e, false_and, if_false]
      exact g
  · rw [nC_fuS] at hi
    have g := h.2.2 i hi
    unfold Cus at g ⊢
    simp only [mu_ne (Or.inl (show b + 13 + i ≠ b + 3 + m by omega)), fC_fuS hm (show (5 : Nat) < 10 by omega)]
    exact g
theorem St.setC {M : xM} {b m k : Nat} {r : xR} {x y : Int} (h : St M b r) (hm : m < 12) (hn : nS r ≤ 10 ∧ nC r ≤ 12) (hk : k < 9) (hxy : k ≠ 4 ∧ k ≠ 8 ∧ x = y ∨ k = 4 ∧ (x = 0 ∧ y = -5 ∨ 0 < x ∧ y = x - 1) ∨ k = 8 ∧ (x = 0 ∧ y = -5 ∨ 0 < x ∧ y = x)) : St (mu M (b + 13 + m) k y) b (fu r (116 + 10 * m + k) x) := by
  refine ⟨?_, fun i hi => ?_, fun i hi => ?_⟩
  · simp only [mu_ne (Or.inl (show b ≠ b + 13 + m by omega)), at_fuC (show (0 : Nat) < 16 by decide), at_fuC (show (1 : Nat) < 16 by decide), at_fuC (show (2 : Nat) < 16 by decide), at_fuC (show (3 : Nat) < 16 by decide), at_fuC (show (4 : Nat) < 16 by decide), at_fuC (show (5 : Nat) < 16 by decide), at_fuC (show (6 : Nat) < 16 by decide), at_fuC (show (7 : Nat) < 16 by decide), at_fuC (show (11 : Nat) < 16 by decide)]
    exact h.1
  · rw [nS_fuC] at hi
    have g := h.2.1 i hi
    unfold Gen at g ⊢
    simp only [mu_ne (Or.inl (show b + 3 + i ≠ b + 13 + m by omega)), fS_fuC (show i < 10 by omega) (show (0 : Nat) < 10 by decide), fS_fuC (show i < 10 by omega) (show (1 : Nat) < 10 by decide), fS_fuC (show i < 10 by omega) (show (2 : Nat) < 10 by decide), fS_fuC (show i < 10 by omega) (show (3 : Nat) < 10 by decide), fS_fuC (show i < 10 by omega) (show (4 : Nat) < 10 by decide), fS_fuC (show i < 10 by omega) (show (5 : Nat) < 10 by decide), fS_fuC (show i < 10 by omega) (show (6 : Nat) < 10 by decide), fS_fuC (show i < 10 by omega) (show (7 : Nat) < 10 by decide), fS_fuC (show i < 10 by omega) (show (8 : Nat) < 10 by decide)]
    exact g
  · rw [nC_fuC] at hi
    have g := h.2.2 i hi
    unfold Cus at g ⊢
    by_cases e : i = m
    · subst e
      simp only [mu_read, fC_fuC (show k < 10 by omega) (show (0 : Nat) < 10 by decide), fC_fuC (show k < 10 by omega) (show (1 : Nat) < 10 by decide), fC_fuC (show k < 10 by omega) (show (2 : Nat) < 10 by decide), fC_fuC (show k < 10 by omega) (show (3 : Nat) < 10 by decide), fC_fuC (show k < 10 by omega) (show (4 : Nat) < 10 by decide), fC_fuC (show k < 10 by omega) (show (5 : Nat) < 10 by decide), fC_fuC (show k < 10 by omega) (show (6 : Nat) < 10 by decide), fC_fuC (show k < 10 by omega) (show (7 : Nat) < 10 by decide), fC_fuC (show k < 10 by omega) (show (8 : Nat) < 10 by decide)]
      rcases (by omega : k = 0 ∨ k = 1 ∨ k = 2 ∨ k = 3 ∨ k = 4 ∨ k = 5 ∨ k = 6 ∨ k = 7 ∨ k = 8) with e | e | e | e | e | e | e | e | e <;> subst e <;> simp <;> omega
    · simp only [mu_ne (Or.inl (show b + 13 + i ≠ b + 13 + m by omega)), fC_fuC (show k < 10 by omega) (show (0 : Nat) < 10 by decide), fC_fuC (show k < 10 by omega) (show (1 : Nat) < 10 by decide), fC_fuC (show k < 10 by omega) (show (2 : Nat) < 10 by decide), fC_fuC (show k < 10 by omega) (show (3 : Nat) < 10 by decide), fC_fuC (show k < 10 by omega) (show (4 : Nat) < 10 by decide), fC_fuC (show k < 10 by omega) (show (5 : Nat) < 10 by decide), fC_fuC (show k < 10 by omega) (show (6 : Nat) < 10 by decide), fC_fuC (show k < 10 by omega) (show (7 : Nat) < 10 by decide), fC_fuC (show k < 10 by omega) (show (8 : Nat) < 10 by decide), e, false_and, if_false]
      exact g
/-- a number of the depot: slot k of the State, place j of the row -/
theorem St.set0 {M : xM} {b k j : Nat} {r : xR} {x : Int} (h : St M b r) (hn : nS r ≤ 10 ∧ nC r ≤ 12) (hkj : k < 6 ∧ j = k ∨ k = 6 ∧ j = 11) : St (mu M b k x) b (fu r j x) := by
  refine ⟨?_, fun i hi => ?_, fun i hi => ?_⟩
  · have g := h.1
    rcases (by omega : k = 0 ∧ j = 0 ∨ k = 1 ∧ j = 1 ∨ k = 2 ∧ j = 2 ∨ k = 3 ∧ j = 3 ∨ k = 4 ∧ j = 4 ∨ k = 5 ∧ j = 5 ∨ k = 6 ∧ j = 11) with ⟨e, e2⟩ | ⟨e, e2⟩ | ⟨e, e2⟩ | ⟨e, e2⟩ | ⟨e, e2⟩ | ⟨e, e2⟩ | ⟨e, e2⟩ <;> subst e <;> subst e2 <;> simp [mu_read, fu_at] <;> omega
  · rw [nS_fu0 (by omega)] at hi
    have g := h.2.1 i hi
    unfold Gen at g ⊢
    simp only [mu_ne (Or.inl (show b + 3 + i ≠ b by omega)), fS_fu0 (show j < 16 by omega)]
    exact g
  · rw [nC_fu0 (by omega)] at hi
    have g := h.2.2 i hi
    unfold Cus at g ⊢
    simp only [mu_ne (Or.inl (show b + 13 + i ≠ b by omega)), fC_fu0 (show j < 16 by omega)]
    exact g
/-- what the class doesn't hold -/
theorem St.ign {M : xM} {b j : Nat} {r : xR} {x : Int} (h : St M b r) (hj : 8 ≤ j ∧ j ≤ 10) : St M b (fu r j x) := by
  refine ⟨?_, fun i hi => ?_, fun i hi => ?_⟩
  · have g := h.1
    rcases (by omega : j = 8 ∨ j = 9 ∨ j = 10) with e | e | e <;> subst e <;> simp [fu_at] <;> omega
  · rw [nS_fu0 (by omega)] at hi
    have g := h.2.1 i hi
    unfold Gen at g ⊢
    simp only [fS_fu0 (show j < 16 by omega)]
    exact g
  · rw [nC_fu0 (by omega)] at hi
    have g := h.2.2 i hi
    unfold Cus at g ⊢
    simp only [fC_fu0 (show j < 16 by omega)]
    exact g
