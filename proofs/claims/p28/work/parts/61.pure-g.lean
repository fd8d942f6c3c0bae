/-! what else holds of a row that the law's calls make: who has whom, the yard at rest, dark causes, the fuel's sum -/
def Jg (b : Nat → Int) (r : xR) : Prop := (∀ i : Nat, i < nS r → fS r i 5 = 0 → fS r i 6 = 0 ∧ fS r i 7 = 0) ∧ (∀ i j : Nat, i < nS r → fS r i 5 = (j : Int) + 1 → fC r j 4 = (i : Int) + 1) ∧ (∀ i j : Nat, j < nC r → fC r j 4 = (i : Int) + 1 → fS r i 5 = (j : Int) + 1 ∧ fC r j 1 ≤ fS r i 0 ∧ b j < fC r j 3) ∧ (∀ j : Nat, j < nC r → (fC r j 8 = 0 ↔ fC r j 6 = 0)) ∧ r 5 = r 3 + sumN (fun i => fS r i 4) (nS r) + r 4
def Jx (r : xR) : Prop := Jg (fun _ => r 0) r
def Jr (r : xR) : Prop := Vr r ∧ Jx r
theorem hasN_is {r : xR} {s i : Nat} (h : fC r s 4 = (i : Int) + 1) : hasN r s = i := by
  unfold hasN
  omega
theorem Vb.si {r : xR} {w d : Int} {s i : Nat} (h : Vb r w d) (hs : s < nC r) (h4 : fC r s 4 = (i : Int) + 1) : i < nS r := by
  have n6 := h.n6
  have v4 := (h.2.2 s hs).2.2.2.2.1
  omega
theorem Vb.is {r : xR} {w d : Int} {s i : Nat} (h : Vb r w d) (hi : i < nS r) (h5 : fS r i 5 = (s : Int) + 1) : s < nC r := by
  have n7 := h.n7
  have v5 := (h.2.1 i hi).2.2.2.2.2.1
  omega
theorem Vb.s4 {r : xR} {w d : Int} {s : Nat} (h : Vb r w d) (hs : s < nC r) : fC r s 4 = 0 ∨ ∃ i : Nat, fC r s 4 = (i : Int) + 1 ∧ i < nS r := by
  have n6 := h.n6
  have v4 := (h.2.2 s hs).2.2.2.2.1
  by_cases e : fC r s 4 = 0
  · exact Or.inl e
  · exact Or.inr ⟨(fC r s 4 - 1).toNat, by omega, by omega⟩
theorem Vb.i5 {r : xR} {w d : Int} {i : Nat} (h : Vb r w d) (hi : i < nS r) : fS r i 5 = 0 ∨ ∃ s : Nat, fS r i 5 = (s : Int) + 1 ∧ s < nC r := by
  have n7 := h.n7
  have v5 := (h.2.1 i hi).2.2.2.2.2.1
  by_cases e : fS r i 5 = 0
  · exact Or.inl e
  · exact Or.inr ⟨(fS r i 5 - 1).toNat, by omega, by omega⟩
theorem Jg.same {b : Nat → Int} {r r' : xR} (h : Jg b r) (eS : ∀ x k, x < nS r → k < 10 → fS r' x k = fS r x k) (eC : ∀ j k, k < 10 → fC r' j k = fC r j k) (e6 : r' 6 = r 6) (e7 : r' 7 = r 7) (hV : ∀ i j : Nat, j < nC r → fC r j 4 = (i : Int) + 1 → i < nS r) (e5 : r' 5 = r' 3 + sumN (fun i => fS r i 4) (nS r) + r' 4) : Jg b r' := by
  have nSe : nS r' = nS r := nS_of e6
  have nCe : nC r' = nC r := nC_of e7
  refine ⟨fun x hx h5 => ?_, fun x j hx h5 => ?_, fun x j hj h4 => ?_, fun j hj => ?_, ?_⟩
  · rw [nSe] at hx
    rw [eS x 5 hx (by decide)] at h5
    rw [eS x 6 hx (by decide), eS x 7 hx (by decide)]
    exact h.1 x hx h5
  · rw [nSe] at hx
    rw [eS x 5 hx (by decide)] at h5
    rw [eC j 4 (by decide)]
    exact h.2.1 x j hx h5
  · rw [nCe] at hj
    rw [eC j 4 (by decide)] at h4
    have hx := hV x j hj h4
    rw [eS x 5 hx (by decide), eS x 0 hx (by decide), eC j 1 (by decide), eC j 3 (by decide)]
    exact h.2.2.1 x j hj h4
  · rw [nCe] at hj
    rw [eC j 8 (by decide), eC j 6 (by decide)]
    exact h.2.2.2.1 j hj
  · rw [nSe, sumN_congr (f := fun i => fS r i 4) (nS r) (fun x hx => eS x 4 hx (by decide))]
    exact e5
theorem Jg.bb {b b' : Nat → Int} {r : xR} (h : Jg b r) (hb : ∀ i j : Nat, j < nC r → fC r j 4 = (i : Int) + 1 → b' j < fC r j 3) : Jg b' r := by
  refine ⟨h.1, h.2.1, fun x j hj h4 => ?_, h.2.2.2⟩
  have g := h.2.2.1 x j hj h4
  exact ⟨g.1, g.2.1, hb x j hj h4⟩
theorem Jg.back {b : Nat → Int} {r : xR} {w d : Int} {s i : Nat} (hV : Vb r w d) (h : Jg b r) (hs : s < nC r) (h4 : fC r s 4 = (i : Int) + 1) : Jg b (backR r s) := by
  have n6 := hV.n6
  have hi := hV.si hs h4
  have hm := hasN_is h4
  have g5 := (h.2.2.1 i s hs h4).1
  have eS : nS (backR r s) = nS r := nS_of (backR_0 (by decide))
  have eC : nC (backR r s) = nC r := nC_of (backR_0 (by decide))
  have f : ∀ x k, x < 10 → k < 10 → fS (backR r s) x k = if x = i ∧ (k = 5 ∨ k = 6 ∨ k = 7) then 0 else fS r x k := fun x k hx hk => by
    rw [backR_S hx hk, hm]
  have g : ∀ j k, k < 10 → fC (backR r s) j k = if j = s ∧ k = 4 then 0 else fC r j k := fun j k hk => backR_C (by omega) hk
  refine ⟨fun x hx h5 => ?_, fun x j hx h5 => ?_, fun x j hj hj4 => ?_, fun j hj => ?_, ?_⟩
  · rw [eS] at hx
    rw [f x 5 (by omega) (by decide)] at h5
    rw [f x 6 (by omega) (by decide), f x 7 (by omega) (by decide)]
    by_cases e : x = i
    · rw [if_pos (by omega), if_pos (by omega)]
      exact ⟨rfl, rfl⟩
    · rw [if_neg (by omega)] at h5
      rw [if_neg (by omega), if_neg (by omega)]
      exact h.1 x hx h5
  · rw [eS] at hx
    rw [f x 5 (by omega) (by decide)] at h5
    by_cases e : x = i
    · rw [if_pos (by omega)] at h5
      omega
    · rw [if_neg (by omega)] at h5
      have q := h.2.1 x j hx h5
      rw [g j 4 (by decide), if_neg (by rintro ⟨e2, -⟩; subst e2; omega)]
      exact q
  · rw [eC] at hj
    rw [g j 4 (by decide)] at hj4
    by_cases e : j = s
    · rw [if_pos (by omega)] at hj4
      omega
    · rw [if_neg (by omega)] at hj4
      have q := h.2.2.1 x j hj hj4
      have hx := hV.si hj hj4
      have hxi : x ≠ i := fun e2 => by subst e2; omega
      rw [f x 5 (by omega) (by decide), f x 0 (by omega) (by decide), g j 1 (by decide), g j 3 (by decide), if_neg (by omega), if_neg (by omega), if_neg (by omega), if_neg (by omega)]
      exact q
  · rw [eC] at hj
    rw [g j 8 (by decide), g j 6 (by decide), if_neg (by omega), if_neg (by omega)]
    exact h.2.2.2.1 j hj
  · rw [backR_0 (by decide), backR_0 (by decide), backR_0 (by decide), eS, sumN_congr (f := fun i => fS r i 4) (nS r) (fun x hx => by rw [f x 4 (by omega) (by decide), if_neg (by omega)])]
    exact h.2.2.2.2
theorem Jg.come {b : Nat → Int} {r : xR} {w d : Int} {m s : Nat} (hV : Vb r w d) (h : Jg b r) (hm : m < nS r) (hs : s < nC r) (h5 : fS r m 5 = 0) (h4 : fC r s 4 = 0) (hf : fC r s 1 ≤ fS r m 0) (hb : b s < fC r s 3) : Jg b (comeR r m s) := by
  have n6 := hV.n6
  have eS : nS (comeR r m s) = nS r := nS_of (comeR_0 (by decide))
  have eC : nC (comeR r m s) = nC r := nC_of (comeR_0 (by decide))
  have f : ∀ x k, x < 10 → k < 10 → fS (comeR r m s) x k = if x = m ∧ k = 5 then (s : Int) + 1 else if x = m ∧ (k = 6 ∨ k = 7) then 0 else fS r x k := fun x k hx hk => comeR_S hx hk
  have g : ∀ j k, k < 10 → fC (comeR r m s) j k = if j = s ∧ k = 4 then (m : Int) + 1 else fC r j k := fun j k hk => comeR_C (by omega) hk
  refine ⟨fun x hx q5 => ?_, fun x j hx q5 => ?_, fun x j hj hj4 => ?_, fun j hj => ?_, ?_⟩
  · rw [eS] at hx
    rw [f x 5 (by omega) (by decide)] at q5
    rw [f x 6 (by omega) (by decide), f x 7 (by omega) (by decide)]
    by_cases e : x = m
    · rw [if_pos (by omega)] at q5
      omega
    · rw [if_neg (by omega), if_neg (by omega)] at q5
      rw [if_neg (by omega), if_neg (by omega), if_neg (by omega), if_neg (by omega)]
      exact h.1 x hx q5
  · rw [eS] at hx
    rw [f x 5 (by omega) (by decide)] at q5
    rw [g j 4 (by decide)]
    by_cases e : x = m
    · rw [if_pos (by omega)] at q5
      rw [if_pos (by omega)]
      omega
    · rw [if_neg (by omega), if_neg (by omega)] at q5
      have q := h.2.1 x j hx q5
      rw [if_neg (by rintro ⟨e2, -⟩; subst e2; omega)]
      exact q
  · rw [eC] at hj
    rw [g j 4 (by decide)] at hj4
    by_cases e : j = s
    · subst e
      rw [if_pos (by omega)] at hj4
      have hxm : x = m := by omega
      subst hxm
      rw [f x 5 (by omega) (by decide), f x 0 (by omega) (by decide), g j 1 (by decide), g j 3 (by decide), if_pos (by omega), if_neg (by omega), if_neg (by omega), if_neg (by omega), if_neg (by omega)]
      exact ⟨rfl, hf, hb⟩
    · rw [if_neg (by omega)] at hj4
      have q := h.2.2.1 x j hj hj4
      have hx := hV.si hj hj4
      have hxm : x ≠ m := fun e2 => by subst e2; omega
      rw [f x 5 (by omega) (by decide), f x 0 (by omega) (by decide), g j 1 (by decide), g j 3 (by decide), if_neg (by omega), if_neg (by omega), if_neg (by omega), if_neg (by omega), if_neg (by omega), if_neg (by omega)]
      exact q
  · rw [eC] at hj
    rw [g j 8 (by decide), g j 6 (by decide), if_neg (by omega), if_neg (by omega)]
    exact h.2.2.2.1 j hj
  · rw [comeR_0 (by decide), comeR_0 (by decide), comeR_0 (by decide), eS, sumN_congr (f := fun i => fS r i 4) (nS r) (fun x hx => by rw [f x 4 (by omega) (by decide), if_neg (by omega), if_neg (by omega)])]
    exact h.2.2.2.2
theorem Jg.lit {b : Nat → Int} {r : xR} {w d : Int} {s i : Nat} (hV : Vb r w d) (h : Jg b r) (hs : s < nC r) (h4 : fC r s 4 = (i : Int) + 1) : Jg b (litR r s) := by
  have n6 := hV.n6
  have hi := hV.si hs h4
  have hm := hasN_is h4
  have g5 := (h.2.2.1 i s hs h4).1
  have e0 : ∀ k, k < 16 → k ≠ 8 → k ≠ 10 → k ≠ 4 → litR r s k = r k := fun k hk h8 h10 h4 => by rw [litR_0 hk, if_neg h8, if_neg h10, if_neg h4]
  have eS : nS (litR r s) = nS r := nS_of (e0 6 (by decide) (by decide) (by decide) (by decide))
  have eC : nC (litR r s) = nC r := nC_of (e0 7 (by decide) (by decide) (by decide) (by decide))
  have f : ∀ x k, x < 10 → k < 10 → k ≠ 4 → (x = i → k ≠ 6 ∧ k ≠ 8) → fS (litR r s) x k = fS r x k := fun x k hx hk hk4 hxk => by
    rw [litR_S hx hk, hm, if_neg (by omega), if_neg (by omega), if_neg (by omega)]
  have f4 : ∀ x, x < 10 → fS (litR r s) x 4 = if x = i then fS r x 4 + -fS r i 2 else fS r x 4 := fun x hx => by
    rw [litR_S hx (by decide), hm, if_neg (by omega), if_neg (by omega)]
    by_cases e : x = i
    · rw [if_pos (by omega), if_pos e, e]
      omega
    · rw [if_neg (by omega), if_neg e]
  have g : ∀ j k, k < 10 → k ≠ 5 → k ≠ 7 → fC (litR r s) j k = fC r j k := fun j k hk k5 k7 => by
    rw [litR_C (by omega) hk, if_neg (by omega), if_neg (by omega)]
  refine ⟨fun x hx q5 => ?_, fun x j hx q5 => ?_, fun x j hj hj4 => ?_, fun j hj => ?_, ?_⟩
  · rw [eS] at hx
    rw [f x 5 (by omega) (by decide) (by decide) (fun _ => ⟨by decide, by decide⟩)] at q5
    have hxi : x ≠ i := fun e2 => by subst e2; omega
    rw [f x 6 (by omega) (by decide) (by decide) (fun e2 => absurd e2 hxi), f x 7 (by omega) (by decide) (by decide) (fun e2 => absurd e2 hxi)]
    exact h.1 x hx q5
  · rw [eS] at hx
    rw [f x 5 (by omega) (by decide) (by decide) (fun _ => ⟨by decide, by decide⟩)] at q5
    rw [g j 4 (by decide) (by decide) (by decide)]
    exact h.2.1 x j hx q5
  · rw [eC] at hj
    rw [g j 4 (by decide) (by decide) (by decide)] at hj4
    have hx := hV.si hj hj4
    rw [f x 5 (by omega) (by decide) (by decide) (fun _ => ⟨by decide, by decide⟩), f x 0 (by omega) (by decide) (by decide) (fun _ => ⟨by decide, by decide⟩), g j 1 (by decide) (by decide) (by decide), g j 3 (by decide) (by decide) (by decide)]
    exact h.2.2.1 x j hj hj4
  · rw [eC] at hj
    rw [g j 8 (by decide) (by decide) (by decide), g j 6 (by decide) (by decide) (by decide)]
    exact h.2.2.2.1 j hj
  · have e5 := h.2.2.2.2
    rw [e0 5 (by decide) (by decide) (by decide) (by decide), e0 3 (by decide) (by decide) (by decide) (by decide), eS, litR_0 (by decide), if_neg (by decide), if_neg (by decide), if_pos rfl, hm, sumN_upd (f := fun i => fS r i 4) (s := i) (x := -fS r i 2) (nS r) hi (fun x hx => f4 x (by omega))]
    omega
theorem causeR_no {r : xR} {s : Nat} (h : fC r s 4 = 0) : causeR r s = 1 := by
  unfold causeR
  rw [if_pos h]
theorem Jg.dark {b : Nat → Int} {r : xR} {w d : Int} {s : Nat} (hV : Vb r w d) (h : Jg b r) (hs : s < nC r) (hc0 : causeR r s ≠ 0) : Jg b (darkR r s (causeR r s)) := by
  have n6 := hV.n6
  have v6 := (hV.2.2 s hs).2.2.2.2.2.1
  have hm : causeR r s = 3 → ∃ i : Nat, fC r s 4 = (i : Int) + 1 ∧ i < nS r := fun h3 => by
    rcases hV.s4 hs with e | e
    · rw [causeR_no e] at h3
      omega
    · exact e
  have hm10 : causeR r s = 3 → hasN r s < 10 := fun h3 => by
    obtain ⟨i, h4, hi⟩ := hm h3
    rw [hasN_is h4]
    omega
  have hm5 : causeR r s = 3 → fS r (hasN r s) 5 ≠ 0 := fun h3 => by
    obtain ⟨i, h4, hi⟩ := hm h3
    rw [hasN_is h4]
    have := (h.2.2.1 i s hs h4).1
    omega
  clear hm
  generalize causeR r s = c at hc0 hm10 hm5 ⊢
  have e0 : ∀ k, k < 16 → k ≠ 11 → k ≠ 9 → darkR r s c k = r k := fun k hk h11 h9 => by rw [darkR_0 hk, if_neg h11, if_neg h9]
  have eS : nS (darkR r s c) = nS r := nS_of (e0 6 (by decide) (by decide) (by decide))
  have eC : nC (darkR r s c) = nC r := nC_of (e0 7 (by decide) (by decide) (by decide))
  have f : ∀ x k, x < 10 → k < 10 → k ≠ 7 → fS (darkR r s c) x k = fS r x k := fun x k hx hk hk7 => by
    rw [darkR_S hx hk, if_neg (by omega)]
  have g : ∀ j k, k < 10 → k ≠ 6 → k ≠ 8 → fC (darkR r s c) j k = fC r j k := fun j k hk k6 k8 => by
    rw [darkR_C hm10 hk, if_neg (by omega), if_neg (by omega)]
  refine ⟨fun x hx q5 => ?_, fun x j hx q5 => ?_, fun x j hj hj4 => ?_, fun j hj => ?_, ?_⟩
  · rw [eS] at hx
    rw [f x 5 (by omega) (by decide) (by decide)] at q5
    rw [f x 6 (by omega) (by decide) (by decide), darkR_S (by omega) (by decide), if_neg (by
      rintro ⟨h3, e2, -⟩
      have := hm5 h3
      rw [← e2] at this
      exact this q5)]
    exact h.1 x hx q5
  · rw [eS] at hx
    rw [f x 5 (by omega) (by decide) (by decide)] at q5
    rw [g j 4 (by decide) (by decide) (by decide)]
    exact h.2.1 x j hx q5
  · rw [eC] at hj
    rw [g j 4 (by decide) (by decide) (by decide)] at hj4
    have hx := hV.si hj hj4
    rw [f x 5 (by omega) (by decide) (by decide), f x 0 (by omega) (by decide) (by decide), g j 1 (by decide) (by decide) (by decide), g j 3 (by decide) (by decide) (by decide)]
    exact h.2.2.1 x j hj hj4
  · rw [eC] at hj
    rw [darkR_C hm10 (by decide), darkR_C hm10 (by decide)]
    by_cases e : j = s
    · rw [if_pos (by omega), if_neg (by omega), if_pos (by omega)]
      omega
    · rw [if_neg (by omega), if_neg (by omega), if_neg (by omega), if_neg (by omega)]
      exact h.2.2.2.1 j hj
  · rw [e0 5 (by decide) (by decide) (by decide), e0 3 (by decide) (by decide) (by decide), e0 4 (by decide) (by decide) (by decide), eS, sumN_congr (f := fun i => fS r i 4) (nS r) (fun x hx => f x 4 (by omega) (by decide) (by decide))]
    exact h.2.2.2.2
theorem Jg.hr {b : Nat → Int} {r : xR} {w d : Int} {s : Nat} (hV : Vb r w d) (h : Jg b r) (hs : s < nC r) : Jg b (hrS r s) := by
  unfold hrS
  split
  · rename_i hc
    rcases hV.s4 hs with e | ⟨i, h4, hi⟩
    · exact absurd e (causeR_0 hc).1
    · exact h.lit hV hs h4
  · rename_i hc
    exact h.dark hV hs hc
theorem Jg.pS {b : Nat → Int} {r : xR} {w : Int} (hV : Vb r w w) (h : Jg b r) : ∀ n : Nat, n ≤ nC r → Jg b (passS r n)
  | 0, _ => h
  | n + 1, hn => by
    have ih := Jg.pS hV h n (by omega)
    rw [passS_s]
    split
    · exact ih.hr (hV.pS n (by omega)) (by rw [(passS_n r n).2.1]; omega)
    · exact ih
theorem Jg.fu0 {b : Nat → Int} {r : xR} {w d x : Int} {j : Nat} (hV : Vb r w d) (h : Jg b r) (hj : j < 16 ∧ j ≠ 3 ∧ j ≠ 4 ∧ j ≠ 5 ∧ j ≠ 6 ∧ j ≠ 7) : Jg b (fu r j x) := by
  have e : ∀ k, k ≠ j → fu r j x k = r k := fun k hk => fu_ne hk
  refine h.same (fun _ _ _ _ => fS_fu0 hj.1) (fun _ _ _ => fC_fu0 hj.1) (e 6 (by omega)) (e 7 (by omega)) (fun i q hq h4 => hV.si hq h4) ?_
  rw [e 5 (by omega), e 3 (by omega), e 4 (by omega)]
  exact h.2.2.2.2
theorem Jg.pT {r : xR} {w d : Int} (hw : 0 ≤ w) (hV : Vb r w d) (h : Jg (fun _ => r 0 - 1) r) : ∀ n : Nat, n ≤ nC r → Jg (fun j => if j < n then r 0 else r 0 - 1) (passT r n)
  | 0, _ => h.bb (fun i j hj h4 => by rw [if_neg (by omega)]; exact (h.2.2.1 i j hj h4).2.2)
  | n + 1, hn => by
    have ih := Jg.pT hw hV h n (by omega)
    have iV := hV.pT hw n (by omega)
    have eC : nC (passT r n) = nC r := nC_of (passT_n r n 7 (by decide))
    have e0 : passT r n 0 = r 0 := passT_n r n 0 (by decide)
    rw [passT_s]
    split
    · rename_i hu
      unfold relR
      split
      · rename_i h4
        rcases iV.s4 (s := n) (by omega) with e | ⟨i, hi4, hi⟩
        · omega
        · have hb := ih.back iV (by omega) hi4
          have n6 := iV.n6
          refine hb.bb (fun x j hj q4 => ?_)
          have g := hb.2.2.1 x j hj q4
          have hjn : j ≠ n := fun e => by
            subst e
            rw [backR_C (by rw [hasN_is hi4]; omega) (by decide), if_pos (by omega)] at q4
            omega
          have g3 : (if j < n then r 0 else r 0 - 1) < fC (backR (passT r n) n) j 3 := g.2.2
          by_cases e : j < n
          · rw [if_pos e] at g3
            rw [if_pos (by omega)]
            exact g3
          · rw [if_neg e] at g3
            rw [if_neg (by omega)]
            exact g3
      · rename_i h4
        refine ih.bb (fun x j hj q4 => ?_)
        have g3 : (if j < n then r 0 else r 0 - 1) < fC (passT r n) j 3 := (ih.2.2.1 x j hj q4).2.2
        have hjn : j ≠ n := fun e => by subst e; omega
        by_cases e : j < n
        · rw [if_pos e] at g3
          rw [if_pos (by omega)]
          exact g3
        · rw [if_neg e] at g3
          rw [if_neg (by omega)]
          exact g3
    · rename_i hu
      refine ih.bb (fun x j hj q4 => ?_)
      have g3 : (if j < n then r 0 else r 0 - 1) < fC (passT r n) j 3 := (ih.2.2.1 x j hj q4).2.2
      by_cases e : j < n
      · rw [if_pos e] at g3
        rw [if_pos (by omega)]
        exact g3
      · rw [if_neg e] at g3
        by_cases e2 : j = n
        · subst e2
          rw [if_pos (by omega)]
          omega
        · rw [if_neg (by omega)]
          exact g3
theorem Jr.hour {r : xR} (h : Jr r) (h0 : r 0 + 1 ≤ 999) : Jr (hourR r) := by
  obtain ⟨hV, hJ⟩ := h
  have hb := hV.1.1
  refine ⟨hV.hour h0, ?_⟩
  have h1 := hJ.pS hV.1 (nC r) (Nat.le_refl _)
  have hp := hV.1.pS (nC r) (Nat.le_refl _)
  have h2 : Jg (fun _ => r 0) (upR r) := by
    unfold upR
    exact h1.fu0 hp (by omega)
  have hu := hV.1.up h0
  have e0 : upR r 0 = r 0 + 1 := upR_0 r
  have h3 : Jg (fun _ => upR r 0 - 1) (upR r) := by
    have e : (fun _ : Nat => upR r 0 - 1) = fun _ => r 0 := by
      funext _
      omega
    rw [e]
    exact h2
  have h4 := h3.pT (by omega) hu (nC r) (by rw [upR_nC]; exact Nat.le_refl _)
  refine h4.bb (fun i j hj q4 => ?_)
  have g3 : (if j < nC r then upR r 0 else upR r 0 - 1) < fC (passT (upR r) (nC r)) j 3 := (h4.2.2.1 i j hj q4).2.2
  have hj2 : j < nC r := by
    have := (hourR_n r).2.1
    unfold hourR at this
    omega
  rw [if_pos hj2] at g3
  have e1 : hourR r 0 = upR r 0 := hourR_k r (by decide)
  show hourR r 0 < _
  rw [e1]
  exact g3
theorem Jr.hours {r : xR} (h : Jr r) : ∀ n : Nat, r 0 + n ≤ 999 → Jr (hoursR r n)
  | 0, _ => h
  | n + 1, hn => (Jr.hours h n (by omega)).hour (by rw [(hoursR_n r n).2.2.1]; omega)
theorem Jg.fill {b : Nat → Int} {r : xR} {w d x : Int} {u : Nat} (hV : Vb r w d) (h : Jg b r) (hu : u < nS r) : Jg b (fillR r u x) := by
  have n6 := hV.n6
  obtain ⟨eS, eC, e3⟩ := fillR_n (r := r) (u := u) (x := x)
  have e0 : ∀ k, k < 16 → k ≠ 3 → fillR r u x k = r k := fun k hk h3 => by unfold fillR; rw [fu_ne h3, at_fuS hk]
  have g : ∀ j k, fC (fillR r u x) j k = fC r j k := fun j k => by
    unfold fillR
    rw [fC_fu0 (by decide), fC_fuS (by omega) (by decide)]
  have f : ∀ q k, k < 10 → fS (fillR r u x) q k = if q = u ∧ k = 4 then fS r u 4 + x else fS r q k := fun q k hk => by
    unfold fillR
    rw [fS_fu0 (by decide), fS_fuS (by decide) hk]
  refine ⟨fun q hq q5 => ?_, fun q j hq q5 => ?_, fun q j hj hj4 => ?_, fun j hj => ?_, ?_⟩
  · rw [eS] at hq
    rw [f q 5 (by decide), if_neg (by omega)] at q5
    rw [f q 6 (by decide), f q 7 (by decide), if_neg (by omega), if_neg (by omega)]
    exact h.1 q hq q5
  · rw [eS] at hq
    rw [f q 5 (by decide), if_neg (by omega)] at q5
    rw [g]
    exact h.2.1 q j hq q5
  · rw [eC] at hj
    rw [g] at hj4
    rw [f q 5 (by decide), f q 0 (by decide), g, g, if_neg (by omega), if_neg (by omega)]
    exact h.2.2.1 q j hj hj4
  · rw [eC] at hj
    rw [g, g]
    exact h.2.2.2.1 j hj
  · have e5 := h.2.2.2.2
    rw [e0 5 (by decide) (by decide), e0 4 (by decide) (by decide), e3, eS, sumN_upd (f := fun i => fS r i 4) (s := u) (x := x) (nS r) hu (fun q hq => by
      rw [f q 4 (by decide)]
      by_cases e : q = u
      · subst e
        rw [if_pos (by omega), if_pos rfl]
      · rw [if_neg (by omega), if_neg e])]
    omega
/-! the acts -/
theorem Jr.fill {r : xR} {u : Nat} {x : Int} (h : Jr r) (hu : u < nS r) (hx : 0 ≤ x ∧ x ≤ fS r u 1 - fS r u 4) (h3 : x ≤ r 3) : Jr (fillR r u x) := by
  refine ⟨h.1.fill hu hx h3, ?_⟩
  have e : fillR r u x 0 = r 0 := by unfold fillR; rw [fu_ne (by decide), at_fuS (by decide)]
  show Jg (fun _ => fillR r u x 0) _
  rw [e]
  exact Jg.fill h.1.1 h.2 hu
theorem Jr.come {r : xR} {m s : Nat} (h : Jr r) (hm : m < nS r) (hs : s < nC r) (h5 : fS r m 5 = 0) (h4 : fC r s 4 = 0) (hf : fC r s 1 ≤ fS r m 0) (hb : r 0 < fC r s 3) : Jr (comeR r m s) := by
  refine ⟨h.1.come hm hs, ?_⟩
  show Jg (fun _ => comeR r m s 0) _
  rw [show comeR r m s 0 = r 0 from comeR_0 (by decide)]
  exact Jg.come h.1.1 h.2 hm hs h5 h4 hf hb
theorem Jr.back {r : xR} {s i : Nat} (h : Jr r) (hs : s < nC r) (h4 : fC r s 4 = (i : Int) + 1) : Jr (backR r s) := by
  refine ⟨h.1.back hs (by omega), ?_⟩
  show Jg (fun _ => backR r s 0) _
  rw [show backR r s 0 = r 0 from backR_0 (by decide)]
  exact Jg.back h.1.1 h.2 hs h4
theorem Jr.buy {r : xR} {x : Int} (h : Jr r) (hx : 1 ≤ x) (h3 : r 3 + x ≤ 50000) : Jr (fu (fu r 3 (r 3 + x)) 5 (r 5 + x)) := by
  have g := h.1.1.1
  refine ⟨Vr.set0 (Vr.set0 h.1 (by omega)) (by omega), ?_⟩
  have e : ∀ k, k ≠ 3 → k ≠ 5 → fu (fu r 3 (r 3 + x)) 5 (r 5 + x) k = r k := fun k k3 k5 => by rw [fu_ne k5, fu_ne k3]
  show Jg (fun _ => fu (fu r 3 (r 3 + x)) 5 (r 5 + x) 0) _
  rw [e 0 (by decide) (by decide)]
  refine Jg.same h.2 (fun _ _ _ _ => by rw [fS_fu0 (by decide), fS_fu0 (by decide)]) (fun _ _ _ => by rw [fC_fu0 (by decide), fC_fu0 (by decide)]) (e 6 (by decide) (by decide)) (e 7 (by decide) (by decide)) (fun i q hq h4 => h.1.1.si hq h4) ?_
  have e5 := h.2.2.2.2.2
  rw [e 4 (by decide) (by decide), fu_same, fu_ne (by decide), fu_same]
  omega
theorem Jr.set0 {r : xR} {j : Nat} {x : Int} (h : Jr r) (hj : j = 1 ∧ -30 ≤ x ∧ x ≤ 20 ∨ j = 2 ∧ 1 ≤ x ∧ x ≤ 99) : Jr (fu r j x) := by
  refine ⟨Vr.set0 h.1 (by omega), ?_⟩
  show Jg (fun _ => fu r j x 0) _
  rw [fu_ne (show 0 ≠ j by omega)]
  exact Jg.fu0 h.1.1 h.2 (by omega)
theorem Jr.addSet {r : xR} {x0 x1 x2 x3 : Int} (h : Jr r) (hn : nS r < 10) (h0 : 1 ≤ x0 ∧ x0 ≤ 99) (h1 : 10 ≤ x1 ∧ x1 ≤ 500) (h2 : 1 ≤ x2 ∧ x2 ≤ 50) (h3 : -30 ≤ x3 ∧ x3 ≤ 10) : Jr (addSetR r x0 x1 x2 x3) := by
  refine ⟨h.1.addSet hn h0 h1 h2 h3, ?_⟩
  obtain ⟨hV, hJ⟩ := h
  have n7 := hV.1.n7
  obtain ⟨a1, a2, a3⟩ := addSetR_n (x0 := x0) (x1 := x1) (x2 := x2) (x3 := x3) hV.1.n6.1
  obtain ⟨-, -, -, -, g4, g5, g6, g7, -⟩ := addSetR_N r x0 x1 x2 x3
  have e0 : ∀ k, k < 16 → k ≠ 6 → addSetR r x0 x1 x2 x3 k = r k := fun k hk h6 => addSetR_0 hk h6
  have f : ∀ i k, i < nS r → k < 10 → fS (addSetR r x0 x1 x2 x3) i k = fS r i k := fun i k hi hk => addSetR_S hi hk
  have g : ∀ i k, fC (addSetR r x0 x1 x2 x3) i k = fC r i k := fun i k => addSetR_C hn
  show Jg (fun _ => addSetR r x0 x1 x2 x3 0) _
  rw [e0 0 (by decide) (by decide)]
  refine ⟨fun x hx q5 => ?_, fun x j hx q5 => ?_, fun x j hj hj4 => ?_, fun j hj => ?_, ?_⟩
  · rw [a1] at hx
    by_cases e : x = nS r
    · subst e
      exact ⟨g6, g7⟩
    · rw [f x 5 (by omega) (by decide)] at q5
      rw [f x 6 (by omega) (by decide), f x 7 (by omega) (by decide)]
      exact hJ.1 x (by omega) q5
  · rw [a1] at hx
    by_cases e : x = nS r
    · subst e
      omega
    · rw [f x 5 (by omega) (by decide)] at q5
      rw [g]
      exact hJ.2.1 x j (by omega) q5
  · rw [a2] at hj
    rw [g] at hj4
    have hx := hV.1.si hj hj4
    rw [f x 5 hx (by decide), f x 0 hx (by decide), g, g]
    exact hJ.2.2.1 x j hj hj4
  · rw [a2] at hj
    rw [g, g]
    exact hJ.2.2.2.1 j hj
  · have e5 := hJ.2.2.2.2
    rw [e0 5 (by decide) (by decide), e0 3 (by decide) (by decide), e0 4 (by decide) (by decide), a1, sumN_s]
    have es := sumN_congr (f := fun i => fS r i 4) (g := fun i => fS (addSetR r x0 x1 x2 x3) i 4) (nS r) (fun x hx => f x 4 hx (by decide))
    omega
theorem Jr.addSite {r : xR} {x0 x1 x2 x3 : Int} (h : Jr r) (hn : nC r < 12) (h0 : 1 ≤ x0 ∧ x0 ≤ 9) (h1 : 1 ≤ x1 ∧ x1 ≤ 99) (h2 : 0 ≤ x2 ∧ x2 ≤ 998) (h3 : 1 ≤ x3 ∧ x3 ≤ 999) : Jr (addSiteR r x0 x1 x2 x3) := by
  refine ⟨h.1.addSite hn h0 h1 h2 h3, ?_⟩
  obtain ⟨hV, hJ⟩ := h
  have n6 := hV.1.n6
  obtain ⟨a1, a2, a3⟩ := addSiteR_n (x0 := x0) (x1 := x1) (x2 := x2) (x3 := x3) hV.1.n7.1
  obtain ⟨-, -, -, -, g4, -, g6, -, g8⟩ := addSiteR_N r x0 x1 x2 x3
  have e0 : ∀ k, k < 16 → k ≠ 7 → addSiteR r x0 x1 x2 x3 k = r k := fun k hk h7 => addSiteR_0 hk h7
  have f : ∀ i k, i < nS r → k < 10 → fS (addSiteR r x0 x1 x2 x3) i k = fS r i k := fun i k hi hk => addSiteR_S (by omega) hk
  have g : ∀ i k, i < nC r → k < 10 → fC (addSiteR r x0 x1 x2 x3) i k = fC r i k := fun i k hi hk => addSiteR_C hi hk
  show Jg (fun _ => addSiteR r x0 x1 x2 x3 0) _
  rw [e0 0 (by decide) (by decide)]
  refine ⟨fun x hx q5 => ?_, fun x j hx q5 => ?_, fun x j hj hj4 => ?_, fun j hj => ?_, ?_⟩
  · rw [a2] at hx
    rw [f x 5 hx (by decide)] at q5
    rw [f x 6 hx (by decide), f x 7 hx (by decide)]
    exact hJ.1 x hx q5
  · rw [a2] at hx
    rw [f x 5 hx (by decide)] at q5
    have hj := hV.1.is hx q5
    rw [g j 4 hj (by decide)]
    exact hJ.2.1 x j hx q5
  · rw [a1] at hj
    by_cases e : j = nC r
    · subst e
      omega
    · rw [g j 4 (by omega) (by decide)] at hj4
      have hx := hV.1.si (by omega) hj4
      rw [f x 5 hx (by decide), f x 0 hx (by decide), g j 1 (by omega) (by decide), g j 3 (by omega) (by decide)]
      exact hJ.2.2.1 x j (by omega) hj4
  · rw [a1] at hj
    by_cases e : j = nC r
    · subst e
      omega
    · rw [g j 8 (by omega) (by decide), g j 6 (by omega) (by decide)]
      exact hJ.2.2.2.1 j (by omega)
  · have e5 := hJ.2.2.2.2
    rw [e0 5 (by decide) (by decide), e0 3 (by decide) (by decide), e0 4 (by decide) (by decide), a2, sumN_congr (f := fun i => fS r i 4) (nS r) (fun x hx => f x 4 hx (by decide))]
    exact e5
