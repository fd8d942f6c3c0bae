/-! that hours keep the numbers in their bounds -/
theorem sumN_congr {f g : Nat → Int} : ∀ n, (∀ i, i < n → g i = f i) → sumN g n = sumN f n
  | 0, _ => rfl
  | n + 1, h => by rw [sumN_s, sumN_s, sumN_congr n (fun i hi => h i (by omega)), h n (by omega)]
theorem sumN_upd {f g : Nat → Int} {s : Nat} {x : Int} : ∀ n, s < n → (∀ i, i < n → g i = if i = s then f i + x else f i) → sumN g n = sumN f n + x
  | 0, hs, _ => by omega
  | n + 1, hs, h => by
    rw [sumN_s, sumN_s]
    have hn := h n (by omega)
    by_cases e : s = n
    · subst e
      rw [if_pos rfl] at hn
      rw [sumN_congr s (fun i hi => by rw [h i (by omega), if_neg (by omega)]), hn]
      omega
    · rw [if_neg (by omega)] at hn
      rw [sumN_upd n (by omega) (fun i hi => h i (by omega)), hn]
      omega
def Sums (r : xR) : Prop := r 8 = sumN (fun i => fC r i 5) (nC r) ∧ r 9 = sumN (fun i => fC r i 6) (nC r) ∧ r 10 = sumN (fun i => fC r i 7) (nC r)
/-- a state's row is in order -/
def Vr (r : xR) : Prop := Vb r (12 * r 0) (12 * r 0) ∧ Sums r
theorem causeR_0 {r : xR} {s : Nat} (h : causeR r s = 0) : fC r s 4 ≠ 0 ∧ (fS r (hasN r s) 6 = 1 ∨ ¬ fS r (hasN r s) 4 < fS r (hasN r s) 2) := by
  unfold causeR at h
  by_cases h4 : fC r s 4 = 0
  · rw [if_pos h4] at h
    omega
  · rw [if_neg h4] at h
    refine ⟨h4, ?_⟩
    unfold caF at h
    by_cases h6 : fS r (hasN r s) 6 = 1
    · exact Or.inl h6
    · rw [if_neg h6] at h
      by_cases hf : fS r (hasN r s) 4 < fS r (hasN r s) 2
      · rw [if_pos hf] at h
        omega
      · exact Or.inr hf
theorem Vb.lit {r : xR} {w : Int} {s : Nat} (h : Vb r w w) (hs : s < nC r) (hc : causeR r s = 0) : Vb (litR r s) w w := by
  obtain ⟨n6, n6b⟩ := h.n6
  obtain ⟨n7, n7b⟩ := h.n7
  obtain ⟨h4, hrun⟩ := causeR_0 hc
  have v4 := (h.2.2 s hs).2.2.2.2.1
  obtain ⟨hm, hme⟩ := hasN_lt h hs (by omega)
  have e0 : ∀ k, k < 16 → k ≠ 8 → k ≠ 10 → k ≠ 4 → litR r s k = r k := fun k hk h8 h10 h4 => by rw [litR_0 hk, if_neg h8, if_neg h10, if_neg h4]
  have eS : nS (litR r s) = nS r := nS_of (e0 6 (by decide) (by decide) (by decide) (by decide))
  have eC : nC (litR r s) = nC r := nC_of (e0 7 (by decide) (by decide) (by decide) (by decide))
  refine ⟨?_, fun i hi => ?_, fun i hi => ?_⟩
  · rw [e0 0 (by decide) (by decide) (by decide) (by decide), e0 1 (by decide) (by decide) (by decide) (by decide), e0 2 (by decide) (by decide) (by decide) (by decide), e0 3 (by decide) (by decide) (by decide) (by decide), e0 6 (by decide) (by decide) (by decide) (by decide), e0 7 (by decide) (by decide) (by decide) (by decide)]
    exact h.1
  · rw [eS] at hi
    have g := h.2.1 i hi
    have e : ∀ k, k < 10 → fS (litR r s) i k = if i = hasN r s ∧ k = 6 then bi (fS r (hasN r s) 2 ≤ fS r (hasN r s) 4 - fS r (hasN r s) 2) else if i = hasN r s ∧ k = 8 then fS r (hasN r s) 8 + 1 else if i = hasN r s ∧ k = 4 then fS r (hasN r s) 4 - fS r (hasN r s) 2 else fS r i k := fun k hk => litR_S (by omega) hk
    unfold Vset at g ⊢
    rw [e 0 (by decide), e 1 (by decide), e 2 (by decide), e 3 (by decide), e 4 (by decide), e 5 (by decide), e 6 (by decide), e 7 (by decide), e0 7 (by decide) (by decide) (by decide) (by decide)]
    by_cases him : i = hasN r s
    · rw [← him] at hrun ⊢
      simp only [true_and, Nat.reduceEqDiff, if_false, if_true]
      by_cases hb : fS r i 2 ≤ fS r i 4 - fS r i 2
      · rw [bi_t hb]
        omega
      · rw [bi_f hb]
        omega
    · simp only [him, false_and, if_false]
      exact g
  · rw [eC] at hi
    have g := h.2.2 i hi
    have e : ∀ k, k < 10 → fC (litR r s) i k = if i = s ∧ k = 7 then fC r s 7 + fS r (hasN r s) 0 * r 2 else if i = s ∧ k = 5 then fC r s 5 + 1 else fC r i k := fun k hk => litR_C (by omega) hk
    unfold Vsite at g ⊢
    rw [e 0 (by decide), e 1 (by decide), e 2 (by decide), e 3 (by decide), e 4 (by decide), e 6 (by decide), e 8 (by decide), e0 6 (by decide) (by decide) (by decide) (by decide)]
    simp only [Nat.reduceEqDiff, and_false, if_false]
    exact g
theorem Vb.dark {r : xR} {w : Int} {s : Nat} (h : Vb r w w) (hs : s < nC r) : Vb (darkR r s (causeR r s)) (w + 1) (w + 1) := by
  obtain ⟨n6, n6b⟩ := h.n6
  obtain ⟨n7, n7b⟩ := h.n7
  have hcr := causeR_rng r s
  have v4 := (h.2.2 s hs).2.2.2.2.1
  have hm : causeR r s = 3 → hasN r s < nS r := by
    intro h3
    by_cases h4 : fC r s 4 = 0
    · unfold causeR at h3
      rw [if_pos h4] at h3
      omega
    · exact (hasN_lt h hs (by omega)).1
  generalize causeR r s = c at hcr hm ⊢
  have e0 : ∀ k, k < 16 → k ≠ 11 → k ≠ 9 → darkR r s c k = r k := fun k hk h11 h9 => by rw [darkR_0 hk, if_neg h11, if_neg h9]
  have eS : nS (darkR r s c) = nS r := nS_of (e0 6 (by decide) (by decide) (by decide))
  have eC : nC (darkR r s c) = nC r := nC_of (e0 7 (by decide) (by decide) (by decide))
  refine ⟨?_, fun i hi => ?_, fun i hi => ?_⟩
  · rw [e0 0 (by decide) (by decide) (by decide), e0 1 (by decide) (by decide) (by decide), e0 2 (by decide) (by decide) (by decide), e0 3 (by decide) (by decide) (by decide), e0 6 (by decide) (by decide) (by decide), e0 7 (by decide) (by decide) (by decide)]
    exact h.1
  · rw [eS] at hi
    have g := h.2.1 i hi
    have e : ∀ k, k < 10 → fS (darkR r s c) i k = if c = 3 ∧ i = hasN r s ∧ k = 7 then fS r (hasN r s) 7 + 1 else fS r i k := fun k hk => darkR_S (by omega) hk
    unfold Vset at g ⊢
    rw [e 0 (by decide), e 1 (by decide), e 2 (by decide), e 3 (by decide), e 4 (by decide), e 5 (by decide), e 6 (by decide), e 7 (by decide), e0 7 (by decide) (by decide) (by decide)]
    simp only [Nat.reduceEqDiff, and_false, if_false, and_true]
    by_cases hh : c = 3 ∧ i = hasN r s
    · rw [if_pos hh, ← hh.2]
      omega
    · rw [if_neg hh]
      omega
  · rw [eC] at hi
    have g := h.2.2 i hi
    have e : ∀ k, k < 10 → fC (darkR r s c) i k = if i = s ∧ k = 8 then c else if i = s ∧ k = 6 then fC r s 6 + 1 else fC r i k := fun k hk => darkR_C (fun h3 => by have := hm h3; omega) hk
    unfold Vsite at g ⊢
    rw [e 0 (by decide), e 1 (by decide), e 2 (by decide), e 3 (by decide), e 4 (by decide), e 6 (by decide), e 8 (by decide), e0 6 (by decide) (by decide) (by decide)]
    simp only [Nat.reduceEqDiff, and_false, if_false, and_true]
    by_cases hh : i = s
    · rw [if_pos hh, if_pos hh, ← hh]
      omega
    · rw [if_neg hh, if_neg hh]
      omega
theorem Vb.hr {r : xR} {w : Int} {s : Nat} (h : Vb r w w) (hs : s < nC r) : Vb (hrS r s) (w + 1) (w + 1) := by
  unfold hrS
  split
  · rename_i hc
    exact (h.lit hs hc).mono (by omega) (by omega)
  · exact h.dark hs
theorem Vb.pS {r : xR} {w : Int} (h : Vb r w w) : ∀ n : Nat, n ≤ nC r → Vb (passS r n) (w + n) (w + n)
  | 0, _ => h.mono (by omega) (by omega)
  | n + 1, hn => by
    have ih := Vb.pS h n (by omega)
    rw [passS_s]
    split
    · have := ih.hr (s := n) (by rw [(passS_n r n).2.1]; omega)
      exact this.mono (by omega) (by omega)
    · exact ih.mono (by omega) (by omega)
theorem Vb.up {r : xR} {w : Int} (h : Vb r w w) (h0 : r 0 + 1 ≤ 999) : Vb (upR r) (w + 12) (w + 12) := by
  have hp := h.pS (nC r) (Nat.le_refl _)
  obtain ⟨n7, n7b⟩ := h.n7
  have hp := hp.mono (w' := w + 12) (d' := w + 12) (by omega) (by omega)
  obtain ⟨pS, pC, p0, -⟩ := passS_n r (nC r)
  have e : ∀ i k, fS (upR r) i k = fS (passS r (nC r)) i k := fun i k => by unfold upR; exact fS_fu0 (by decide)
  have f : ∀ i k, fC (upR r) i k = fC (passS r (nC r)) i k := fun i k => by unfold upR; exact fC_fu0 (by decide)
  refine ⟨?_, fun i hi => ?_, fun i hi => ?_⟩
  · rw [upR_0, upR_k r (by decide), upR_k r (by decide), upR_k r (by decide), upR_k r (by decide), upR_k r (by decide)]
    have g := hp.1
    have g0 := h.1
    omega
  · rw [upR_nS, ← pS] at hi
    have g := hp.2.1 i hi
    unfold Vset at g ⊢
    simp only [e]
    rw [upR_k r (by decide)]
    exact g
  · rw [upR_nC, ← pC] at hi
    have g := hp.2.2 i hi
    unfold Vsite at g ⊢
    simp only [f]
    rw [upR_k r (by decide)]
    exact g
theorem Vb.back {r : xR} {w d : Int} {s : Nat} (h : Vb r w d) (hw : 0 ≤ w) (hs : s < nC r) (h4 : 0 < fC r s 4) : Vb (backR r s) w d := by
  obtain ⟨n6, n6b⟩ := h.n6
  obtain ⟨n7, n7b⟩ := h.n7
  obtain ⟨hm, hme⟩ := hasN_lt h hs h4
  have e0 : ∀ k, k < 16 → backR r s k = r k := fun k hk => backR_0 hk
  have eS : nS (backR r s) = nS r := nS_of (e0 6 (by decide))
  have eC : nC (backR r s) = nC r := nC_of (e0 7 (by decide))
  refine ⟨?_, fun i hi => ?_, fun i hi => ?_⟩
  · rw [e0 0 (by decide), e0 1 (by decide), e0 2 (by decide), e0 3 (by decide), e0 6 (by decide), e0 7 (by decide)]
    exact h.1
  · rw [eS] at hi
    have g := h.2.1 i hi
    have e : ∀ k, k < 10 → fS (backR r s) i k = if i = hasN r s ∧ (k = 5 ∨ k = 6 ∨ k = 7) then 0 else fS r i k := fun k hk => backR_S (by omega) hk
    unfold Vset at g ⊢
    rw [e 0 (by decide), e 1 (by decide), e 2 (by decide), e 3 (by decide), e 4 (by decide), e 5 (by decide), e 6 (by decide), e 7 (by decide), e0 7 (by decide)]
    by_cases hh : i = hasN r s
    · subst hh
      simp only [true_and, Nat.reduceEqDiff, or_self, or_false, false_or, or_true, true_or, if_false, if_true]
      omega
    · simp only [hh, false_and, if_false]
      exact g
  · rw [eC] at hi
    have g := h.2.2 i hi
    have e : ∀ k, k < 10 → fC (backR r s) i k = if i = s ∧ k = 4 then 0 else fC r i k := fun k hk => backR_C (by omega) hk
    unfold Vsite at g ⊢
    rw [e 0 (by decide), e 1 (by decide), e 2 (by decide), e 3 (by decide), e 4 (by decide), e 6 (by decide), e 8 (by decide), e0 6 (by decide)]
    simp only [Nat.reduceEqDiff, and_false, if_false, and_true]
    by_cases hh : i = s
    · rw [if_pos hh]
      omega
    · rw [if_neg hh]
      exact g
theorem Vb.pT {r : xR} {w d : Int} (h : Vb r w d) (hw : 0 ≤ w) : ∀ n : Nat, n ≤ nC r → Vb (passT r n) w d
  | 0, _ => h
  | n + 1, hn => by
    have ih := Vb.pT h hw n (by omega)
    rw [passT_s]
    split
    · unfold relR
      split
      · rename_i h4
        exact ih.back hw (by rw [nC_of (passT_n r n 7 (by decide))]; omega) h4
      · exact ih
    · exact ih
theorem Sums.of {r r' : xR} (h : Sums r) (e8 : r' 8 = r 8) (e9 : r' 9 = r 9) (e10 : r' 10 = r 10) (eC : nC r' = nC r) (f5 : ∀ i, i < nC r → fC r' i 5 = fC r i 5) (f6 : ∀ i, i < nC r → fC r' i 6 = fC r i 6) (f7 : ∀ i, i < nC r → fC r' i 7 = fC r i 7) : Sums r' := by
  unfold Sums at h ⊢
  rw [e8, e9, e10, eC, sumN_congr (nC r) f5, sumN_congr (nC r) f6, sumN_congr (nC r) f7]
  exact h
theorem Sums.hr {r : xR} {w : Int} {s : Nat} (hV : Vb r w w) (h : Sums r) (hs : s < nC r) : Sums (hrS r s) := by
  have hn := (hrS_n (r := r) (s := s)).2.1
  obtain ⟨h8, h9, h10⟩ := h
  obtain ⟨n6, n6b⟩ := hV.n6
  have v4 := (hV.2.2 s hs).2.2.2.2.1
  unfold Sums
  rw [hn]
  unfold hrS
  split
  · rename_i hc
    obtain ⟨h4, -⟩ := causeR_0 hc
    obtain ⟨hm, hme⟩ := hasN_lt hV hs (by omega)
    refine ⟨?_, ?_, ?_⟩
    · rw [litR_0 (by decide), if_pos rfl, h8]
      exact (sumN_upd (nC r) hs (fun i hi => by rw [litR_C (by omega) (by decide)]; by_cases e : i = s <;> simp [e])).symm
    · rw [litR_0 (by decide)]
      simp only [Nat.reduceEqDiff, if_false]
      rw [h9]
      exact (sumN_congr (nC r) (fun i hi => by rw [litR_C (by omega) (by decide)]; simp)).symm
    · rw [litR_0 (by decide)]
      simp only [Nat.reduceEqDiff, if_false, if_true]
      rw [h10]
      exact (sumN_upd (nC r) hs (fun i hi => by rw [litR_C (by omega) (by decide)]; by_cases e : i = s <;> simp [e])).symm
  · have hm : causeR r s = 3 → hasN r s < 10 := by
      intro h3
      by_cases h4 : fC r s 4 = 0
      · unfold causeR at h3
        rw [if_pos h4] at h3
        omega
      · have := (hasN_lt hV hs (by omega)).1
        omega
    refine ⟨?_, ?_, ?_⟩
    · rw [darkR_0 (by decide)]
      simp only [Nat.reduceEqDiff, if_false]
      rw [h8]
      exact (sumN_congr (nC r) (fun i hi => by rw [darkR_C hm (by decide)]; simp)).symm
    · rw [darkR_0 (by decide)]
      simp only [Nat.reduceEqDiff, if_false, if_true]
      rw [h9]
      exact (sumN_upd (nC r) hs (fun i hi => by rw [darkR_C hm (by decide)]; by_cases e : i = s <;> simp [e])).symm
    · rw [darkR_0 (by decide)]
      simp only [Nat.reduceEqDiff, if_false]
      rw [h10]
      exact (sumN_congr (nC r) (fun i hi => by rw [darkR_C hm (by decide)]; simp)).symm
theorem Sums.pS {r : xR} {w : Int} (hV : Vb r w w) (h : Sums r) : ∀ n : Nat, n ≤ nC r → Sums (passS r n)
  | 0, _ => h
  | n + 1, hn => by
    have ih := Sums.pS hV h n (by omega)
    have iV := hV.pS n (by omega)
    rw [passS_s]
    split
    · exact ih.hr iV (by rw [(passS_n r n).2.1]; omega)
    · exact ih
theorem Sums.pT {r : xR} {w d : Int} (hV : Vb r w d) (hw : 0 ≤ w) (h : Sums r) : ∀ n : Nat, n ≤ nC r → Sums (passT r n)
  | 0, _ => h
  | n + 1, hn => by
    have ih := Sums.pT hV hw h n (by omega)
    have iV := hV.pT hw n (by omega)
    have eC : nC (passT r n) = nC r := nC_of (passT_n r n 7 (by decide))
    rw [passT_s]
    split
    · unfold relR
      split
      · rename_i h4
        obtain ⟨hm, -⟩ := hasN_lt iV (by rw [eC]; omega) h4
        have n6 := iV.n6
        exact ih.of (backR_0 (by decide)) (backR_0 (by decide)) (backR_0 (by decide)) (nC_of (backR_0 (by decide))) (fun i hi => by rw [backR_C (by omega) (by decide)]; simp) (fun i hi => by rw [backR_C (by omega) (by decide)]; simp) (fun i hi => by rw [backR_C (by omega) (by decide)]; simp)
      · exact ih
    · exact ih
theorem Vr.k {r : xR} (h : Vr r) : Vk r := h.1.mono (by have := h.1.1; omega) (by have := h.1.1; omega)
theorem Vr.pre {r : xR} (h : Vr r) (h0 : r 0 + 1 ≤ 999) : (∀ n, n ≤ nC r → Vk (passS r n)) ∧ ∀ n, n ≤ nC r → Vk (passT (upR r) n) := by
  have hb := h.1.1
  obtain ⟨n7, n7b⟩ := h.1.n7
  refine ⟨fun n hn => (h.1.pS n hn).mono (by omega) (by omega), fun n hn => ?_⟩
  exact ((h.1.up h0).pT (by omega) n (by rw [upR_nC]; exact hn)).mono (by omega) (by omega)
theorem hourR_k (r : xR) {k : Nat} (hk : k < 16) : hourR r k = upR r k := passT_n (upR r) (nC r) k hk
theorem hourR_n (r : xR) : nS (hourR r) = nS r ∧ nC (hourR r) = nC r ∧ hourR r 0 = r 0 + 1 ∧ hourR r 1 = r 1 ∧ hourR r 2 = r 2 ∧ hourR r 3 = r 3 ∧ hourR r 6 = r 6 ∧ hourR r 7 = r 7 := by
  obtain ⟨pS, pC, p0, p1, p2, p3, p6, p7⟩ := passS_n r (nC r)
  have e : ∀ k, k < 16 → k ≠ 0 → hourR r k = passS r (nC r) k := fun k hk h0 => (hourR_k r hk).trans (upR_k r h0)
  have e6 := (e 6 (by decide) (by decide)).trans p6
  have e7 := (e 7 (by decide) (by decide)).trans p7
  exact ⟨nS_of e6, nC_of e7, (hourR_k r (by decide)).trans (upR_0 r), (e 1 (by decide) (by decide)).trans p1, (e 2 (by decide) (by decide)).trans p2, (e 3 (by decide) (by decide)).trans p3, e6, e7⟩
theorem Vr.hour {r : xR} (h : Vr r) (h0 : r 0 + 1 ≤ 999) : Vr (hourR r) := by
  have hb := h.1.1
  obtain ⟨-, -, e0, -⟩ := hourR_n r
  have hu := h.1.up h0
  refine ⟨?_, ?_⟩
  · rw [e0]
    exact (hu.pT (by omega) (nC r) (by rw [upR_nC]; exact Nat.le_refl _)).mono (by omega) (by omega)
  · have h1 := h.2.pS h.1 (nC r) (Nat.le_refl _)
    have h2 : Sums (upR r) := h1.of (upR_k r (by decide)) (upR_k r (by decide)) (upR_k r (by decide)) (nC_of (upR_k r (by decide))) (fun i hi => by unfold upR; exact fC_fu0 (by decide)) (fun i hi => by unfold upR; exact fC_fu0 (by decide)) (fun i hi => by unfold upR; exact fC_fu0 (by decide))
    exact h2.pT hu (by omega) (nC r) (by rw [upR_nC]; exact Nat.le_refl _)
theorem hoursR_s (r : xR) (n : Nat) : hoursR r (n + 1) = hourR (hoursR r n) := rfl
theorem hoursR_n (r : xR) : ∀ n : Nat, nS (hoursR r n) = nS r ∧ nC (hoursR r n) = nC r ∧ hoursR r n 0 = r 0 + n ∧ hoursR r n 1 = r 1 ∧ hoursR r n 2 = r 2 ∧ hoursR r n 3 = r 3 ∧ hoursR r n 6 = r 6 ∧ hoursR r n 7 = r 7
  | 0 => ⟨rfl, rfl, by show r 0 = r 0 + 0; omega, rfl, rfl, rfl, rfl, rfl⟩
  | n + 1 => by
    obtain ⟨a1, a2, a3, a4, a5, a6, a7, a8⟩ := hoursR_n r n
    obtain ⟨b1, b2, b3, b4, b5, b6, b7, b8⟩ := hourR_n (hoursR r n)
    rw [hoursR_s]
    exact ⟨b1.trans a1, b2.trans a2, by rw [b3, a3]; omega, b4.trans a4, b5.trans a5, b6.trans a6, b7.trans a7, b8.trans a8⟩
theorem Vr.hours {r : xR} (h : Vr r) : ∀ n : Nat, r 0 + n ≤ 999 → Vr (hoursR r n)
  | 0, _ => h
  | n + 1, hn => (Vr.hours h n (by omega)).hour (by rw [(hoursR_n r n).2.2.1]; omega)
