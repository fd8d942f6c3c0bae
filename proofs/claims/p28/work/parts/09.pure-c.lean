/-- only the cells from b to b + n have changed -/
def Off (M M' : xM) (b n : Nat) : Prop := ∀ a, (a < b ∨ b + n ≤ a) → M' a = M a
theorem Off.rf {M : xM} {b n : Nat} : Off M M b n := fun _ _ => rfl
theorem Off.mu {M M' : xM} {b n a k : Nat} {x : Int} (h : Off M M' b n) (ha : b ≤ a ∧ a < b + n) : Off M (mu M' a k x) b n := fun q hq => by
  have e : q ≠ a := by omega
  show ms M' a (fu (M' a) k x) q = M q
  rw [ms_ne e]
  exact h q hq
theorem Off.trans {M M' M2 : xM} {b n : Nat} (h : Off M M' b n) (h2 : Off M' M2 b n) : Off M M2 b n := fun q hq => (h2 q hq).trans (h q hq)
theorem Off.mono {M M' : xM} {b n b' n' : Nat} (h : Off M M' b n) (hb : b' ≤ b ∧ b + n ≤ b' + n') : Off M M' b' n' := fun q hq => h q (by omega)
theorem caF_congr {g g' : xR} {t t' : Int} (h6 : g 6 = g' 6) (h4 : g 4 = g' 4) (h2 : g 2 = g' 2) (h3 : g 3 = g' 3) (h7 : g 7 = g' 7) (ht : t = t') : caF g t = caF g' t' := by
  unfold caF
  rw [h6, h4, h2, h3, h7, ht]
def causeR (r : xR) (s : Nat) : Int := if fC r s 4 = 0 then 1 else caF (fun k => fS r (hasN r s) k) (r 1)
/-- a set comes to a site; a site's set comes back -/
def comeR (r : xR) (m s : Nat) : xR := fu (fu (fu (fu r (116 + 10 * s + 4) ((m : Int) + 1)) (16 + 10 * m + 5) ((s : Int) + 1)) (16 + 10 * m + 6) 0) (16 + 10 * m + 7) 0
def freeR (r : xR) (m : Nat) : xR := fu (fu (fu r (16 + 10 * m + 5) 0) (16 + 10 * m + 6) 0) (16 + 10 * m + 7) 0
def backR (r : xR) (s : Nat) : xR := fu (freeR r (hasN r s)) (116 + 10 * s + 4) 0
def relR (r : xR) (s : Nat) : xR := if 0 < fC r s 4 then backR r s else r
/-- a site is lit for an hour, or dark for a cause -/
def litR (r : xR) (s : Nat) : xR := fu (fu (fu (fu (fu (fu (fu (fu r (16 + 10 * hasN r s + 4) (fS r (hasN r s) 4 - fS r (hasN r s) 2)) (16 + 10 * hasN r s + 8) (fS r (hasN r s) 8 + 1)) (16 + 10 * hasN r s + 6) (bi (fS r (hasN r s) 2 ≤ fS r (hasN r s) 4 - fS r (hasN r s) 2))) 4 (r 4 + fS r (hasN r s) 2)) (116 + 10 * s + 5) (fC r s 5 + 1)) (116 + 10 * s + 7) (fC r s 7 + fS r (hasN r s) 0 * r 2)) 10 (r 10 + fS r (hasN r s) 0 * r 2)) 8 (r 8 + 1)
def darkR (r : xR) (s : Nat) (c : Int) : xR := (fun q : xR => if c = 3 then fu q (16 + 10 * hasN r s + 7) (fS r (hasN r s) 7 + 1) else q) (fu (fu (fu (fu r (116 + 10 * s + 6) (fC r s 6 + 1)) (116 + 10 * s + 8) c) 9 (r 9 + 1)) 11 (r 11 + (if 1 < c then 1 else 0)))
def hrS (r : xR) (s : Nat) : xR := if causeR r s = 0 then litR r s else darkR r s (causeR r s)
def passS (r : xR) : Nat → xR
  | 0 => r
  | n + 1 => if openB (passS r n) n = true then hrS (passS r n) n else passS r n
def passT (r : xR) : Nat → xR
  | 0 => r
  | n + 1 => if fC (passT r n) n 3 = passT r n 0 then relR (passT r n) n else passT r n
def upR (r : xR) : xR := fu (passS r (nC r)) 0 (passS r (nC r) 0 + 1)
def hourR (r : xR) : xR := passT (upR r) (nC r)
def hoursR (r : xR) : Nat → xR
  | 0 => r
  | n + 1 => hourR (hoursR r n)
theorem passS_s (r : xR) (n : Nat) : passS r (n + 1) = if openB (passS r n) n = true then hrS (passS r n) n else passS r n := rfl
theorem passT_s (r : xR) (n : Nat) : passT r (n + 1) = if fC (passT r n) n 3 = passT r n 0 then relR (passT r n) n else passT r n := rfl
theorem openB_iff {r : xR} {s : Nat} : openB r s = true ↔ fC r s 2 ≤ r 0 ∧ r 0 < fC r s 3 := by
  unfold openB
  exact decide_eq_true_iff
/-! what they change -/
theorem litR_S {r : xR} {s i k : Nat} (hi : i < 10) (hk : k < 10) : fS (litR r s) i k = if i = hasN r s ∧ k = 6 then bi (fS r (hasN r s) 2 ≤ fS r (hasN r s) 4 - fS r (hasN r s) 2) else if i = hasN r s ∧ k = 8 then fS r (hasN r s) 8 + 1 else if i = hasN r s ∧ k = 4 then fS r (hasN r s) 4 - fS r (hasN r s) 2 else fS r i k := by
  unfold litR
  rw [fS_fu0 (by decide), fS_fu0 (by decide), fS_fuC hi hk, fS_fuC hi hk, fS_fu0 (by decide), fS_fuS (by decide) hk, fS_fuS (by decide) hk, fS_fuS (by decide) hk]
theorem litR_C {r : xR} {s i k : Nat} (hm : hasN r s < 10) (hk : k < 10) : fC (litR r s) i k = if i = s ∧ k = 7 then fC r s 7 + fS r (hasN r s) 0 * r 2 else if i = s ∧ k = 5 then fC r s 5 + 1 else fC r i k := by
  unfold litR
  rw [fC_fu0 (by decide), fC_fu0 (by decide), fC_fuC (by decide) hk, fC_fuC (by decide) hk, fC_fu0 (by decide), fC_fuS hm (by decide), fC_fuS hm (by decide), fC_fuS hm (by decide)]
theorem litR_0 {r : xR} {s j : Nat} (hj : j < 16) : litR r s j = if j = 8 then r 8 + 1 else if j = 10 then r 10 + fS r (hasN r s) 0 * r 2 else if j = 4 then r 4 + fS r (hasN r s) 2 else r j := by
  unfold litR
  rw [fu_at, fu_at, at_fuC hj, at_fuC hj, fu_at, at_fuS hj, at_fuS hj, at_fuS hj]
theorem darkR_S {r : xR} {s i k : Nat} {c : Int} (hi : i < 10) (hk : k < 10) : fS (darkR r s c) i k = if c = 3 ∧ i = hasN r s ∧ k = 7 then fS r (hasN r s) 7 + 1 else fS r i k := by
  unfold darkR
  by_cases hc : c = 3
  · simp only [hc, if_true, true_and]
    rw [fS_fuS (by decide) hk, fS_fu0 (by decide), fS_fu0 (by decide), fS_fuC hi hk, fS_fuC hi hk]
  · simp only [hc, if_false, false_and]
    rw [fS_fu0 (by decide), fS_fu0 (by decide), fS_fuC hi hk, fS_fuC hi hk]
theorem darkR_C {r : xR} {s i k : Nat} {c : Int} (hm : c = 3 → hasN r s < 10) (hk : k < 10) : fC (darkR r s c) i k = if i = s ∧ k = 8 then c else if i = s ∧ k = 6 then fC r s 6 + 1 else fC r i k := by
  unfold darkR
  by_cases hc : c = 3
  · simp only [hc, if_true]
    rw [fC_fuS (hm hc) (by decide), fC_fu0 (by decide), fC_fu0 (by decide), fC_fuC (by decide) hk, fC_fuC (by decide) hk]
  · simp only [hc, if_false]
    rw [fC_fu0 (by decide), fC_fu0 (by decide), fC_fuC (by decide) hk, fC_fuC (by decide) hk]
theorem darkR_0 {r : xR} {s j : Nat} {c : Int} (hj : j < 16) : darkR r s c j = if j = 11 then r 11 + (if 1 < c then 1 else 0) else if j = 9 then r 9 + 1 else r j := by
  unfold darkR
  by_cases hc : c = 3
  · simp only [hc, if_true]
    rw [at_fuS hj, fu_at, fu_at, at_fuC hj, at_fuC hj]
  · simp only [hc, if_false]
    rw [fu_at, fu_at, at_fuC hj, at_fuC hj]
theorem backR_S {r : xR} {s i k : Nat} (hi : i < 10) (hk : k < 10) : fS (backR r s) i k = if i = hasN r s ∧ (k = 5 ∨ k = 6 ∨ k = 7) then 0 else fS r i k := by
  unfold backR freeR
  rw [fS_fuC hi hk, fS_fuS (by decide) hk, fS_fuS (by decide) hk, fS_fuS (by decide) hk]
  by_cases h : i = hasN r s
  · simp only [h, true_and]
    repeat' split
    all_goals first | rfl | omega
  · simp only [h, false_and, if_false]
theorem backR_C {r : xR} {s i k : Nat} (hm : hasN r s < 10) (hk : k < 10) : fC (backR r s) i k = if i = s ∧ k = 4 then 0 else fC r i k := by
  unfold backR freeR
  rw [fC_fuC (by decide) hk, fC_fuS hm (by decide), fC_fuS hm (by decide), fC_fuS hm (by decide)]
theorem backR_0 {r : xR} {s j : Nat} (hj : j < 16) : backR r s j = r j := by
  unfold backR freeR
  rw [at_fuC hj, at_fuS hj, at_fuS hj, at_fuS hj]
theorem comeR_S {r : xR} {m s i k : Nat} (hi : i < 10) (hk : k < 10) : fS (comeR r m s) i k = if i = m ∧ k = 5 then (s : Int) + 1 else if i = m ∧ (k = 6 ∨ k = 7) then 0 else fS r i k := by
  unfold comeR
  rw [fS_fuS (by decide) hk, fS_fuS (by decide) hk, fS_fuS (by decide) hk, fS_fuC hi hk]
  by_cases h : i = m
  · simp only [h, true_and]
    repeat' split
    all_goals first | rfl | omega
  · simp only [h, false_and, if_false]
theorem comeR_C {r : xR} {m s i k : Nat} (hm : m < 10) (hk : k < 10) : fC (comeR r m s) i k = if i = s ∧ k = 4 then (m : Int) + 1 else fC r i k := by
  unfold comeR
  rw [fC_fuS hm (by decide), fC_fuS hm (by decide), fC_fuS hm (by decide), fC_fuC (by decide) hk]
theorem comeR_0 {r : xR} {m s j : Nat} (hj : j < 16) : comeR r m s j = r j := by
  unfold comeR
  rw [at_fuS hj, at_fuS hj, at_fuS hj, at_fuC hj]
theorem St.come {M : xM} {b m s : Nat} {r : xR} (h : St M b r) (hm : m < 10) (hs : s < 12) (hn : nS r ≤ 10 ∧ nC r ≤ 12) : St (mu (mu (mu (mu M (b + 13 + s) 4 (m : Int)) (b + 3 + m) 5 (s : Int)) (b + 3 + m) 6 0) (b + 3 + m) 7 0) b (comeR r m s) := by
  unfold comeR
  have h1 := h.setC (k := 4) (x := (m : Int) + 1) (y := (m : Int)) hs hn (by decide) (by omega)
  have h2 := h1.setG5 (x := (s : Int) + 1) (y := (s : Int)) hm (by rw [nS_fuC, nC_fuC]; exact hn) (by omega)
  have h3 := h2.setG (k := 6) (x := 0) hm (by rw [nS_fuS, nC_fuS, nS_fuC, nC_fuC]; exact hn) (by decide) (by decide)
  exact h3.setG (k := 7) (x := 0) hm (by rw [nS_fuS, nC_fuS, nS_fuS, nC_fuS, nS_fuC, nC_fuC]; exact hn) (by decide) (by decide)
theorem St.back {M : xM} {b s : Nat} {r : xR} (h : St M b r) (hm : hasN r s < 10) (hs : s < 12) (hn : nS r ≤ 10 ∧ nC r ≤ 12) : St (mu (mu (mu (mu M (b + 3 + hasN r s) 5 (-5)) (b + 3 + hasN r s) 6 0) (b + 3 + hasN r s) 7 0) (b + 13 + s) 4 (-5)) b (backR r s) := by
  unfold backR freeR
  have h1 := h.setG5 (x := 0) (y := -5) hm hn (by omega)
  have h2 := h1.setG (k := 6) (x := 0) hm (by rw [nS_fuS, nC_fuS]; exact hn) (by decide) (by decide)
  have h3 := h2.setG (k := 7) (x := 0) hm (by rw [nS_fuS, nC_fuS, nS_fuS, nC_fuS]; exact hn) (by decide) (by decide)
  exact h3.setC (k := 4) (x := 0) (y := -5) hs (by rw [nS_fuS, nC_fuS, nS_fuS, nC_fuS, nS_fuS, nC_fuS]; exact hn) (by decide) (by omega)
/-! that numbers stay within their bounds -/
theorem nS_of {r r' : xR} (h : r' 6 = r 6) : nS r' = nS r := by unfold nS; rw [h]
theorem nC_of {r r' : xR} (h : r' 7 = r 7) : nC r' = nC r := by unfold nC; rw [h]
theorem hasN_lt {r : xR} {s : Nat} {w d : Int} (h : Vb r w d) (hs : s < nC r) (h4 : 0 < fC r s 4) : hasN r s < nS r ∧ (hasN r s : Int) = fC r s 4 - 1 := by
  have h6 := h.n6
  obtain ⟨-, -, -, -, v4, -⟩ := h.2.2 s hs
  unfold hasN
  omega
theorem hrS_n {r : xR} {s : Nat} : nS (hrS r s) = nS r ∧ nC (hrS r s) = nC r ∧ hrS r s 0 = r 0 ∧ hrS r s 1 = r 1 ∧ hrS r s 2 = r 2 ∧ hrS r s 3 = r 3 := by
  unfold hrS
  split
  · refine ⟨nS_of (by rw [litR_0 (by decide)]; rfl), nC_of (by rw [litR_0 (by decide)]; rfl), ?_, ?_, ?_, ?_⟩ <;> (rw [litR_0 (by decide)]; rfl)
  · refine ⟨nS_of (by rw [darkR_0 (by decide)]; rfl), nC_of (by rw [darkR_0 (by decide)]; rfl), ?_, ?_, ?_, ?_⟩ <;> (rw [darkR_0 (by decide)]; rfl)
