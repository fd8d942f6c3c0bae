/-! ===== rows: what a state is, as 236 ints; and what the calls make of them ===== -/
abbrev xR : Type := Nat → Int
def nS (r : xR) : Nat := (r 6).toNat
def nC (r : xR) : Nat := (r 7).toNat
/-- a set's number, a site's number -/
def fS (r : xR) (i k : Nat) : Int := r (16 + 10 * i + k)
def fC (r : xR) (i k : Nat) : Int := r (116 + 10 * i + k)
def Vset (r : xR) (i : Nat) (w : Int) : Prop := (1 ≤ fS r i 0 ∧ fS r i 0 ≤ 99) ∧ (10 ≤ fS r i 1 ∧ fS r i 1 ≤ 500) ∧ (1 ≤ fS r i 2 ∧ fS r i 2 ≤ 50) ∧ (-30 ≤ fS r i 3 ∧ fS r i 3 ≤ 10) ∧ (0 ≤ fS r i 4 ∧ fS r i 4 ≤ fS r i 1) ∧ (0 ≤ fS r i 5 ∧ fS r i 5 ≤ r 7) ∧ (fS r i 6 = 0 ∨ fS r i 6 = 1 ∧ fS r i 2 ≤ fS r i 4) ∧ (0 ≤ fS r i 7 ∧ fS r i 7 ≤ w)
def Vsite (r : xR) (i : Nat) (d : Int) : Prop := (1 ≤ fC r i 0 ∧ fC r i 0 ≤ 9) ∧ (1 ≤ fC r i 1 ∧ fC r i 1 ≤ 99) ∧ (0 ≤ fC r i 2 ∧ fC r i 2 ≤ 998) ∧ (1 ≤ fC r i 3 ∧ fC r i 3 ≤ 999) ∧ (0 ≤ fC r i 4 ∧ fC r i 4 ≤ r 6) ∧ (0 ≤ fC r i 6 ∧ fC r i 6 ≤ d) ∧ (0 ≤ fC r i 8 ∧ fC r i 8 ≤ 3)
def Vb (r : xR) (w d : Int) : Prop := ((0 ≤ r 0 ∧ r 0 ≤ 999) ∧ (-30 ≤ r 1 ∧ r 1 ≤ 20) ∧ (1 ≤ r 2 ∧ r 2 ≤ 99) ∧ (0 ≤ r 3 ∧ r 3 ≤ 50000) ∧ (0 ≤ r 6 ∧ r 6 ≤ 10) ∧ (0 ≤ r 7 ∧ r 7 ≤ 12)) ∧ (∀ i, i < nS r → Vset r i w) ∧ ∀ i, i < nC r → Vsite r i d
theorem Vb.n6 {r : xR} {w d : Int} (h : Vb r w d) : r 6 = (nS r : Int) ∧ nS r ≤ 10 := by
  obtain ⟨⟨-, -, -, -, h6, -⟩, -⟩ := h
  unfold nS
  omega
theorem Vb.n7 {r : xR} {w d : Int} (h : Vb r w d) : r 7 = (nC r : Int) ∧ nC r ≤ 12 := by
  obtain ⟨⟨-, -, -, -, -, h7⟩, -⟩ := h
  unfold nC
  omega
theorem Vb.mono {r : xR} {w d w' d' : Int} (h : Vb r w d) (hw : w ≤ w') (hd : d ≤ d') : Vb r w' d' := by
  refine ⟨h.1, fun i hi => ?_, fun i hi => ?_⟩
  · have := h.2.1 i hi
    unfold Vset at this ⊢
    omega
  · have := h.2.2 i hi
    unfold Vsite at this ⊢
    omega
abbrev Vk (r : xR) : Prop := Vb r 20000 20000
def Gen (g : xR) (r : xR) (i : Nat) : Prop := g 0 = fS r i 0 ∧ g 1 = fS r i 1 ∧ g 2 = fS r i 2 ∧ g 3 = fS r i 3 ∧ g 4 = fS r i 4 ∧ (fS r i 5 = 0 ∧ g 5 = -5 ∨ 0 < fS r i 5 ∧ g 5 = fS r i 5 - 1) ∧ g 6 = fS r i 6 ∧ g 7 = fS r i 7 ∧ g 8 = fS r i 8
def Cus (c : xR) (r : xR) (i : Nat) : Prop := c 0 = fC r i 0 ∧ c 1 = fC r i 1 ∧ c 2 = fC r i 2 ∧ c 3 = fC r i 3 ∧ (fC r i 4 = 0 ∧ c 4 = -5 ∨ 0 < fC r i 4 ∧ c 4 = fC r i 4 - 1) ∧ c 5 = fC r i 5 ∧ c 6 = fC r i 6 ∧ c 7 = fC r i 7 ∧ (fC r i 8 = 0 ∧ c 8 = -5 ∨ 0 < fC r i 8 ∧ c 8 = fC r i 8)
/-- the class's State at b holds the row r -/
def St (M : xM) (b : Nat) (r : xR) : Prop := (M b 0 = r 0 ∧ M b 1 = r 1 ∧ M b 2 = r 2 ∧ M b 3 = r 3 ∧ M b 4 = r 4 ∧ M b 5 = r 5 ∧ M b 6 = r 11 ∧ M b 7 = r 6 ∧ M b 8 = r 7) ∧ (∀ i, i < nS r → Gen (M (b + 3 + i)) r i) ∧ ∀ i, i < nC r → Cus (M (b + 13 + i)) r i
theorem St.off {M M' : xM} {b : Nat} {r : xR} (h : St M b r) (hn : nS r ≤ 10 ∧ nC r ≤ 12) (hM : ∀ a, b ≤ a → a < b + 25 → M' a = M a) : St M' b r := by
  refine ⟨by rw [hM b (by omega) (by omega)]; exact h.1, fun i hi => ?_, fun i hi => ?_⟩
  · rw [hM _ (by omega) (by omega)]
    exact h.2.1 i hi
  · rw [hM _ (by omega) (by omega)]
    exact h.2.2 i hi
/-- the set of the yard for a site, among the first n -/
def yardF (r : xR) (s : Nat) : Nat → Int
  | 0 => -5
  | n + 1 => if (fS r n 5 = 0 ∧ fC r s 1 ≤ fS r n 0) ∧ (yardF r s n = -5 ∨ fS r n 0 < fS r (yardF r s n).toNat 0) then (n : Int) else yardF r s n
theorem yardF_s (r : xR) (s n : Nat) : yardF r s (n + 1) = if (fS r n 5 = 0 ∧ fC r s 1 ≤ fS r n 0) ∧ (yardF r s n = -5 ∨ fS r n 0 < fS r (yardF r s n).toNat 0) then (n : Int) else yardF r s n := rfl
theorem yardF_rng (r : xR) (s : Nat) : ∀ n, yardF r s n = -5 ∨ ∃ j : Nat, yardF r s n = (j : Int) ∧ j < n ∧ fS r j 5 = 0 ∧ fC r s 1 ≤ fS r j 0
  | 0 => Or.inl rfl
  | n + 1 => by
    rw [yardF_s]
    split
    · rename_i h
      exact Or.inr ⟨n, rfl, by omega, h.1.1, h.1.2⟩
    · rcases yardF_rng r s n with h | ⟨j, h1, h2, h3⟩
      · exact Or.inl h
      · exact Or.inr ⟨j, h1, by omega, h3⟩
theorem yardF_lim (r : xR) (s n : Nat) : yardF r s n = -5 ∨ 0 ≤ yardF r s n ∧ yardF r s n < n := by
  rcases yardF_rng r s n with h | ⟨j, h, hj, -⟩
  · exact Or.inl h
  · exact Or.inr (by omega)
theorem yardF_get {r : xR} {s n : Nat} (h : yardF r s n ≠ -5) : ∃ j : Nat, yardF r s n = (j : Int) ∧ j < n ∧ fS r j 5 = 0 ∧ fC r s 1 ≤ fS r j 0 := (yardF_rng r s n).resolve_left h
/-- the number of the set that a site has -/
def hasN (r : xR) (s : Nat) : Nat := (fC r s 4 - 1).toNat
/-- the partner for a swap, among the first n sites -/
def partF (r : xR) (s : Nat) : Nat → Int
  | 0 => -5
  | n + 1 => if (0 < fC r n 4 ∧ fC r s 1 ≤ fS r (hasN r n) 0 ∧ yardF r n (nS r) ≠ -5) ∧ (partF r s n = -5 ∨ fS r (hasN r n) 0 < fS r (hasN r (partF r s n).toNat) 0) then (n : Int) else partF r s n
theorem partF_s (r : xR) (s n : Nat) : partF r s (n + 1) = if (0 < fC r n 4 ∧ fC r s 1 ≤ fS r (hasN r n) 0 ∧ yardF r n (nS r) ≠ -5) ∧ (partF r s n = -5 ∨ fS r (hasN r n) 0 < fS r (hasN r (partF r s n).toNat) 0) then (n : Int) else partF r s n := rfl
theorem partF_rng (r : xR) (s : Nat) : ∀ n, partF r s n = -5 ∨ ∃ j : Nat, partF r s n = (j : Int) ∧ j < n ∧ 0 < fC r j 4 ∧ yardF r j (nS r) ≠ -5
  | 0 => Or.inl rfl
  | n + 1 => by
    rw [partF_s]
    split
    · rename_i h
      exact Or.inr ⟨n, rfl, by omega, h.1.1, h.1.2.2⟩
    · rcases partF_rng r s n with h | ⟨j, h1, h2, h3⟩
      · exact Or.inl h
      · exact Or.inr ⟨j, h1, by omega, h3⟩
theorem partF_lim (r : xR) (s n : Nat) : partF r s n = -5 ∨ 0 ≤ partF r s n ∧ partF r s n < n := by
  rcases partF_rng r s n with h | ⟨j, h, hj, -⟩
  · exact Or.inl h
  · exact Or.inr (by omega)
theorem partF_get {r : xR} {s n : Nat} (h : partF r s n ≠ -5) : ∃ j : Nat, partF r s n = (j : Int) ∧ j < n ∧ 0 < fC r j 4 ∧ yardF r j (nS r) ≠ -5 := (partF_rng r s n).resolve_left h
def sumN (f : Nat → Int) : Nat → Int
  | 0 => 0
  | n + 1 => sumN f n + f n
theorem sumN_s (f : Nat → Int) (n : Nat) : sumN f (n + 1) = sumN f n + f n := rfl
def cntN (P : Nat → Bool) : Nat → Nat
  | 0 => 0
  | n + 1 => cntN P n + (if P n then 1 else 0)
theorem cntN_s (P : Nat → Bool) (n : Nat) : cntN P (n + 1) = cntN P n + (if P n then 1 else 0) := rfl
theorem cntN_le (P : Nat → Bool) : ∀ n, cntN P n ≤ n
  | 0 => Nat.le_refl 0
  | n + 1 => by
    have := cntN_le P n
    rw [cntN_s]
    split <;> omega
def hoursL (r : xR) (m : Nat) : Int := fS r m 4 / fS r m 2
/-- sites by a key, the greater ahead; of the same the lower number -/
def insK (key : Nat → Int) (x : Nat) : List Nat → List Nat
  | [] => [x]
  | y :: t => if key y < key x then x :: y :: t else y :: insK key x t
def sortK (key : Nat → Int) (P : Nat → Bool) : Nat → List Nat
  | 0 => []
  | n + 1 => if P n then insK key n (sortK key P n) else sortK key P n
def nk (r : xR) (s : Nat) : Int := fC r s 0 * 100 + fC r s 1
def tk (r : xR) (s : Nat) : Int := nk r s - 1000 * hoursL r (hasN r s)
def openB (r : xR) (s : Nat) : Bool := decide (fC r s 2 ≤ r 0 ∧ r 0 < fC r s 3)
def hasB (r : xR) (s : Nat) : Bool := decide (0 < fC r s 4)
def needL (r : xR) : List Nat := sortK (nk r) (openB r) (nC r)
def thirL (r : xR) : List Nat := sortK (tk r) (hasB r) (nC r)
/-- why a set g would not start at t degrees; 0: it runs then -/
def caF (g : Nat → Int) (t : Int) : Int := if g 6 = 1 then 0 else if g 4 < g 2 then 2 else if t < g 3 ∧ 5 * g 7 < g 3 - t then 3 else 0
