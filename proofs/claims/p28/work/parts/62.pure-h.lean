/-! counting -/
theorem yardZ_sum (r : xR) : ∀ n, yardZ r n = sumN (fun i => if fS r i 5 = 0 then 1 else 0) n
  | 0 => rfl
  | n + 1 => by rw [yardZ_s, sumN_s, yardZ_sum r n]
theorem sumN_0 {f : Nat → Int} : ∀ n, (∀ i, i < n → f i = 0) → sumN f n = 0
  | 0, _ => rfl
  | n + 1, h => by rw [sumN_s, sumN_0 n (fun i hi => h i (by omega)), h n (by omega)]; rfl
theorem sumN_add (f g : Nat → Int) : ∀ n, sumN (fun i => f i + g i) n = sumN f n + sumN g n
  | 0 => rfl
  | n + 1 => by
    rw [sumN_s, sumN_s, sumN_s, sumN_add f g n]
    omega
theorem sumN_swap (f : Nat → Nat → Int) (b : Nat) : ∀ a, sumN (fun i => sumN (fun j => f i j) b) a = sumN (fun j => sumN (fun i => f i j) a) b
  | 0 => (sumN_0 b (fun _ _ => rfl)).symm
  | a + 1 => by
    rw [sumN_s, sumN_swap f b a]
    exact (sumN_add (fun j => sumN (fun i => f i j) a) (fun j => f a j) b).symm
theorem sumN_one {n m : Nat} {x : Int} (hm : m < n) : sumN (fun i => if i = m then x else 0) n = x := by
  have h := sumN_upd (f := fun _ => 0) (g := fun i => if i = m then x else 0) (s := m) (x := x) n hm (fun i _ => by
    by_cases e : i = m
    · rw [if_pos e, if_pos e]
      omega
    · rw [if_neg e, if_neg e])
  rw [h, sumN_0 n (fun _ _ => rfl)]
  omega
theorem sumN_rng {f : Nat → Int} {lo hi : Int} : ∀ n, (∀ i, i < n → lo ≤ f i ∧ f i ≤ hi) → lo * n ≤ sumN f n ∧ sumN f n ≤ hi * n
  | 0, _ => ⟨by show lo * 0 ≤ 0; omega, by show 0 ≤ hi * 0; omega⟩
  | n + 1, h => by
    have ih := sumN_rng n (fun i hi => h i (by omega))
    have hn := h n (by omega)
    rw [sumN_s]
    have e1 : lo * ((n + 1 : Nat) : Int) = lo * n + lo := by
      rw [show ((n + 1 : Nat) : Int) = (n : Int) + 1 by omega, Int.mul_add, Int.mul_one]
    have e2 : hi * ((n + 1 : Nat) : Int) = hi * n + hi := by
      rw [show ((n + 1 : Nat) : Int) = (n : Int) + 1 by omega, Int.mul_add, Int.mul_one]
    omega
theorem cntN_sum (P : Nat → Bool) : ∀ n, (cntN P n : Int) = sumN (fun k => if P k = true then 1 else 0) n
  | 0 => rfl
  | n + 1 => by
    rw [cntN_s, sumN_s, ← cntN_sum P n]
    by_cases h : P n = true
    · rw [if_pos h, if_pos h]
      omega
    · rw [if_neg h, if_neg h]
      omega
def opI (r : xR) (k : Nat) : Int := if openB r k = true then 1 else 0
def owI (r : xR) (k : Nat) : Int := if 0 < fC r k 4 then 1 else 0
def wdI (r : xR) (k : Nat) : Int := if openB r k = true ∧ causeR r k = 0 then 1 else 0
theorem needL_n (r : xR) : ((needL r).length : Int) = sumN (opI r) (nC r) := by
  unfold needL
  rw [sortK_len, cntN_sum]
  rfl
theorem thirL_n (r : xR) : ((thirL r).length : Int) = sumN (owI r) (nC r) := by
  unfold thirL
  rw [sortK_len, cntN_sum]
  refine sumN_congr (nC r) (fun k _ => ?_)
  unfold owI
  by_cases h : 0 < fC r k 4
  · rw [if_pos (hasB_iff.mpr h), if_pos h]
  · rw [if_neg (fun h2 => h (hasB_iff.mp h2)), if_neg h]
theorem out_sum (r : xR) : ∀ n : Nat, sumN (fun i => if fS r i 5 = 0 then 0 else 1) n = (n : Int) - yardZ r n
  | 0 => rfl
  | n + 1 => by
    rw [sumN_s, yardZ_s, out_sum r n]
    by_cases h : fS r n 5 = 0
    · rw [if_pos h, if_pos h]
      omega
    · rw [if_neg h, if_neg h]
      omega
theorem own_sum {b : Nat → Int} {r : xR} {w d : Int} (hV : Vb r w d) (h : Jg b r) : sumN (owI r) (nC r) = r 6 - yardZ r (nS r) := by
  have n6 := hV.n6
  have h1 : sumN (owI r) (nC r) = sumN (fun k => sumN (fun i : Nat => if fC r k 4 = (i : Int) + 1 then (1 : Int) else 0) (nS r)) (nC r) := by
    refine sumN_congr (nC r) (fun k hk => ?_)
    unfold owI
    rcases hV.s4 hk with e | ⟨i, e, hi⟩
    · rw [if_neg (by omega)]
      exact (sumN_0 (nS r) (fun j _ => if_neg (by omega))).symm
    · rw [if_pos (by omega)]
      refine (sumN_one (x := 1) hi).symm.trans (sumN_congr (nS r) (fun j _ => ?_))
      by_cases e2 : j = i
      · rw [if_pos e2, if_pos (by omega)]
      · rw [if_neg e2, if_neg (by omega)]
  have h2 : sumN (fun i => if fS r i 5 = 0 then (0 : Int) else 1) (nS r) = sumN (fun i => sumN (fun k : Nat => if fS r i 5 = (k : Int) + 1 then (1 : Int) else 0) (nC r)) (nS r) := by
    refine sumN_congr (nS r) (fun i hi => ?_)
    rcases hV.i5 hi with e | ⟨s, e, hs⟩
    · rw [if_pos e]
      exact (sumN_0 (nC r) (fun j _ => if_neg (by omega))).symm
    · rw [if_neg (by omega)]
      refine (sumN_one (x := 1) hs).symm.trans (sumN_congr (nC r) (fun j _ => ?_))
      by_cases e2 : j = s
      · rw [if_pos e2, if_pos (by omega)]
      · rw [if_neg e2, if_neg (by omega)]
  rw [h1, sumN_swap (fun (k i : Nat) => if fC r k 4 = (i : Int) + 1 then (1 : Int) else 0) (nS r) (nC r), n6.1, ← out_sum r (nS r), h2]
  refine sumN_congr (nS r) (fun i hi => sumN_congr (nC r) (fun k hk => ?_))
  by_cases e : fC r k 4 = (i : Int) + 1
  · rw [if_pos e, if_pos (h.2.2.1 i k hk e).1]
  · rw [if_neg e, if_neg (fun e2 => e (h.2.1 i k hi e2))]
/-! an hour, site by site -/
theorem hr_keep {q : xR} {w d : Int} {s : Nat} (hV : Vb q w d) (hs : s < nC q) : (∀ j k, k < 10 → (j ≠ s ∨ k = 4) → fC (hrS q s) j k = fC q j k) ∧ ∀ i k : Nat, i < 10 → k < 10 → fC q s 4 ≠ (i : Int) + 1 → fS (hrS q s) i k = fS q i k := by
  have n6 := hV.n6
  have hm : fC q s 4 ≠ 0 → hasN q s < 10 ∧ fC q s 4 = (hasN q s : Int) + 1 := fun h4 => by
    have v4 := (hV.2.2 s hs).2.2.2.2.1
    have := hasN_lt hV hs (by omega)
    omega
  unfold hrS
  split
  · rename_i hc
    have h4 := hm (causeR_0 hc).1
    refine ⟨fun j k hk hj => ?_, fun i k hi hk h => ?_⟩
    · rw [litR_C h4.1 hk, if_neg (by omega), if_neg (by omega)]
    · rw [litR_S hi hk, if_neg (by omega), if_neg (by omega), if_neg (by omega)]
  · rename_i hc
    have h3 : causeR q s = 3 → fC q s 4 ≠ 0 := fun h3 h4 => by
      rw [causeR_no h4] at h3
      omega
    refine ⟨fun j k hk hj => ?_, fun i k hi hk h => ?_⟩
    · rw [darkR_C (fun e => (hm (h3 e)).1) hk, if_neg (by omega), if_neg (by omega)]
    · rw [darkR_S hi hk, if_neg (by
        rintro ⟨e, e2, -⟩
        have := hm (h3 e)
        omega)]
theorem pS_keep {r : xR} {w : Int} (hV : Vb r w w) : ∀ n : Nat, n ≤ nC r → (∀ j k, k < 10 → (n ≤ j ∨ k = 4) → fC (passS r n) j k = fC r j k) ∧ ∀ i k : Nat, i < 10 → k < 10 → (∀ s, s < n → fC r s 4 ≠ (i : Int) + 1) → fS (passS r n) i k = fS r i k
  | 0, _ => ⟨fun _ _ _ _ => rfl, fun _ _ _ _ _ => rfl⟩
  | n + 1, hn => by
    obtain ⟨h1, h2⟩ := pS_keep hV n (by omega)
    have hk := hr_keep (hV.pS n (by omega)) (s := n) (by rw [(passS_n r n).2.1]; omega)
    rw [passS_s]
    split
    · refine ⟨fun j k hk10 hj => ?_, fun i k hi hk10 h => ?_⟩
      · rw [hk.1 j k hk10 (by omega)]
        exact h1 j k hk10 (by omega)
      · rw [hk.2 i k hi hk10 (by rw [h1 n 4 (by decide) (Or.inr rfl)]; exact h n (by omega))]
        exact h2 i k hi hk10 (fun s hs => h s (by omega))
    · exact ⟨fun j k hk10 hj => h1 j k hk10 (by omega), fun i k hi hk10 h => h2 i k hi hk10 (fun s hs => h s (by omega))⟩
theorem pS_cause {b : Nat → Int} {r : xR} {w : Int} (hV : Vb r w w) (h : Jg b r) {n s : Nat} (hn : n ≤ s) (hs : s < nC r) : causeR (passS r n) s = causeR r s ∧ openB (passS r n) s = openB r s := by
  have n6 := hV.n6
  obtain ⟨h1, h2⟩ := pS_keep hV n (by omega)
  obtain ⟨-, -, p0, p1, -⟩ := passS_n r n
  have e4 := h1 s 4 (by decide) (Or.inr rfl)
  constructor
  · rcases hV.s4 hs with e | ⟨i, e, hi⟩
    · rw [causeR_no e, causeR_no (e4.trans e)]
    · have f : ∀ k, k < 10 → fS (passS r n) i k = fS r i k := fun k hk => h2 i k (by omega) hk (fun s' hs' e' => by
        have g1 := (h.2.2.1 i s hs e).1
        have g2 := (h.2.2.1 i s' (by omega) e').1
        omega)
      unfold causeR
      rw [e4, if_neg (by omega), if_neg (by omega), hasN_is e, hasN_is (e4.trans e)]
      exact caF_congr (f 6 (by decide)) (f 4 (by decide)) (f 2 (by decide)) (f 3 (by decide)) (f 7 (by decide)) p1
  · unfold openB
    rw [h1 s 2 (by decide) (Or.inl hn), h1 s 3 (by decide) (Or.inl hn), p0]
theorem pS_lit {b : Nat → Int} {r : xR} {w : Int} (hV : Vb r w w) (h : Jg b r) : ∀ n : Nat, n ≤ nC r → passS r n 8 = r 8 + sumN (wdI r) n ∧ passS r n 9 = r 9 + sumN (opI r) n - sumN (wdI r) n
  | 0, _ => ⟨by show r 8 = r 8 + 0; omega, by show r 9 = r 9 + 0 - 0; omega⟩
  | n + 1, hn => by
    obtain ⟨h1, h2⟩ := pS_lit hV h n (by omega)
    obtain ⟨k1, k2⟩ := pS_cause hV h (n := n) (s := n) (Nat.le_refl n) (by omega)
    rw [passS_s, sumN_s, sumN_s, k2]
    have ew : wdI r n = if openB r n = true ∧ causeR r n = 0 then 1 else 0 := rfl
    have eo : opI r n = if openB r n = true then 1 else 0 := rfl
    by_cases ho : openB r n = true
    · rw [if_pos ho]
      rw [if_pos ho] at eo
      unfold hrS
      rw [k1]
      by_cases hc : causeR r n = 0
      · rw [if_pos hc, litR_0 (by decide), litR_0 (by decide), if_pos rfl, if_neg (by decide), if_neg (by decide), if_neg (by decide)]
        rw [if_pos ⟨ho, hc⟩] at ew
        omega
      · rw [if_neg hc, darkR_0 (by decide), darkR_0 (by decide), if_neg (by decide), if_neg (by decide), if_neg (by decide), if_pos rfl]
        rw [if_neg (fun e => hc e.2)] at ew
        omega
    · rw [if_neg ho]
      rw [if_neg ho] at eo
      rw [if_neg (fun e => ho e.1)] at ew
      omega
theorem fore_1 {r : xR} (h : Jr r) : hoursR r 1 8 - r 8 = sumN (wdI r) (nC r) ∧ hoursR r 1 9 - r 9 = sumN (opI r) (nC r) - sumN (wdI r) (nC r) := by
  obtain ⟨h1, h2⟩ := pS_lit h.1.1 h.2 (nC r) (Nat.le_refl _)
  have e8 : hoursR r 1 8 = passS r (nC r) 8 := (hourR_k r (by decide)).trans (upR_k r (by decide))
  have e9 : hoursR r 1 9 = passS r (nC r) 9 := (hourR_k r (by decide)).trans (upR_k r (by decide))
  omega
theorem hoursR_add (r : xR) (a : Nat) : ∀ b, hoursR r (a + b) = hoursR (hoursR r a) b
  | 0 => rfl
  | b + 1 => by
    show hourR (hoursR r (a + b)) = hourR (hoursR (hoursR r a) b)
    rw [hoursR_add r a b]
/-! orders, strictly -/
def SortS (key : Nat → Int) (L : List Nat) : Prop := L.Pairwise (fun a b => key b < key a ∨ key b = key a ∧ a < b)
theorem insK_srt {key : Nat → Int} {x : Nat} : ∀ {L : List Nat}, (∀ y ∈ L, y < x) → SortS key L → SortS key (insK key x L)
  | [], _, _ => by simp [insK, SortS]
  | z :: t, hx, h => by
    unfold SortS at h
    rw [List.pairwise_cons] at h
    unfold insK
    split
    · rename_i hz
      unfold SortS
      rw [List.pairwise_cons, List.pairwise_cons]
      refine ⟨fun a ha => ?_, h⟩
      rcases List.mem_cons.mp ha with e | ha
      · rw [e]
        exact Or.inl hz
      · have := h.1 a ha
        omega
    · rename_i hz
      unfold SortS
      rw [List.pairwise_cons]
      refine ⟨fun a ha => ?_, insK_srt (L := t) (fun y hy => hx y (List.mem_cons_of_mem _ hy)) h.2⟩
      rcases insK_mem.mp ha with e | ha
      · have := hx z List.mem_cons_self
        rw [e]
        omega
      · exact h.1 a ha
theorem sortK_srt (key : Nat → Int) (P : Nat → Bool) : ∀ n, SortS key (sortK key P n)
  | 0 => List.Pairwise.nil
  | n + 1 => by
    rw [sortK_s]
    split
    · exact insK_srt (fun y hy => (sortK_mem.mp hy).1) (sortK_srt key P n)
    · exact sortK_srt key P n
theorem srt_get {key : Nat → Int} {L : List Nat} (h : SortS key L) {i : Nat} (hi : i + 1 < L.length) : key (L.getD (i + 1) 0) < key (L.getD i 0) ∨ key (L.getD (i + 1) 0) = key (L.getD i 0) ∧ L.getD i 0 < L.getD (i + 1) 0 := by
  have g := List.pairwise_iff_getElem.mp h i (i + 1) (by omega) hi (by omega)
  have e1 : L.getD i 0 = L[i] := by simp [List.getD_eq_getElem?_getD, show i < L.length by omega]
  have e2 : L.getD (i + 1) 0 = L[i + 1] := by simp [List.getD_eq_getElem?_getD, hi]
  rw [e1, e2]
  exact g
/-- a is ahead of b, by need -/
def Nd (r : xR) (a b : Nat) : Prop := fC r b 0 < fC r a 0 ∨ fC r a 0 = fC r b 0 ∧ (fC r b 1 < fC r a 1 ∨ fC r a 1 = fC r b 1 ∧ a < b)
theorem need_ord {r : xR} {w d : Int} (hV : Vb r w d) {i : Nat} (hi : i + 1 < (needL r).length) : Nd r ((needL r).getD i 0) ((needL r).getD (i + 1) 0) := by
  have g := srt_get (sortK_srt (nk r) (openB r) (nC r)) hi
  have h1 := needL_in (r := r) (i := i) (by omega)
  have h2 := needL_in (r := r) (i := i + 1) hi
  have v1 := (hV.2.2 _ h1.1).2.1
  have v2 := (hV.2.2 _ h2.1).2.1
  unfold needL at v1 v2 ⊢
  unfold nk at g
  unfold Nd
  unfold nk at v1 v2 ⊢
  omega
theorem thir_ord {r : xR} {w d : Int} (hV : Vb r w d) {i : Nat} (hi : i + 1 < (thirL r).length) : hoursL r (hasN r ((thirL r).getD i 0)) ≤ hoursL r (hasN r ((thirL r).getD (i + 1) 0)) ∧ (hoursL r (hasN r ((thirL r).getD (i + 1) 0)) = hoursL r (hasN r ((thirL r).getD i 0)) → Nd r ((thirL r).getD i 0) ((thirL r).getD (i + 1) 0)) := by
  have g : tk r ((thirL r).getD (i + 1) 0) < tk r ((thirL r).getD i 0) ∨ tk r ((thirL r).getD (i + 1) 0) = tk r ((thirL r).getD i 0) ∧ (thirL r).getD i 0 < (thirL r).getD (i + 1) 0 := srt_get (sortK_srt (tk r) (hasB r) (nC r)) hi
  have h1 := thirL_in (r := r) (i := i) (by omega)
  have h2 := thirL_in (r := r) (i := i + 1) hi
  generalize (thirL r).getD i 0 = x at g h1 ⊢
  generalize (thirL r).getD (i + 1) 0 = y at g h2 ⊢
  have v1 := hV.2.2 _ h1.1
  have v2 := hV.2.2 _ h2.1
  unfold Vsite at v1 v2
  unfold tk nk at g
  unfold Nd
  omega
/-! giving out -/
theorem yardF_no {r : xR} {s : Nat} : ∀ {n : Nat}, yardF r s n = -5 → ∀ i, i < n → fS r i 5 = 0 → fS r i 0 < fC r s 1
  | 0, _, i, hi, _ => by omega
  | n + 1, h, i, hi, h5 => by
    rw [yardF_s] at h
    split at h
    · omega
    · rename_i hc
      by_cases e : i = n
      · subst e
        have : ¬ (fC r s 1 ≤ fS r i 0) := fun h2 => hc ⟨⟨h5, h2⟩, Or.inl h⟩
        omega
      · exact yardF_no h i (by omega) h5
theorem yardF_all {r : xR} {s n : Nat} (h : ∀ i, i < n → fS r i 5 = 0 → fS r i 0 < fC r s 1) : yardF r s n = -5 := by
  rcases yardF_rng r s n with e | ⟨j, -, hj, h5, h1⟩
  · exact e
  · have := h j hj h5
    omega
/-- what giving out leaves -/
def Gm (q q' : xR) : Prop := (nS q' = nS q ∧ nC q' = nC q ∧ q' 0 = q 0 ∧ q' 6 = q 6 ∧ q' 7 = q 7) ∧ (∀ i, i < 10 → fS q' i 0 = fS q i 0) ∧ (∀ i, i < 10 → fS q' i 5 = 0 → fS q i 5 = 0) ∧ (∀ s k, k < 4 → fC q' s k = fC q s k) ∧ ∀ s, fC q s 4 ≠ 0 → fC q' s 4 ≠ 0
theorem Gm.rf {q : xR} : Gm q q := ⟨⟨rfl, rfl, rfl, rfl, rfl⟩, fun _ _ => rfl, fun _ _ h => h, fun _ _ _ => rfl, fun _ h => h⟩
theorem Gm.trans {q q1 q2 : xR} (h : Gm q q1) (h2 : Gm q1 q2) : Gm q q2 :=
  ⟨⟨h2.1.1.trans h.1.1, h2.1.2.1.trans h.1.2.1, h2.1.2.2.1.trans h.1.2.2.1, h2.1.2.2.2.1.trans h.1.2.2.2.1, h2.1.2.2.2.2.trans h.1.2.2.2.2⟩, fun i hi => (h2.2.1 i hi).trans (h.2.1 i hi), fun i hi g => h.2.2.1 i hi (h2.2.2.1 i hi g), fun s k hk => (h2.2.2.2.1 s k hk).trans (h.2.2.2.1 s k hk), fun s g => h2.2.2.2.2 s (h.2.2.2.2 s g)⟩
theorem Gm.come {q : xR} {m s : Nat} (hm : m < 10) : Gm q (comeR q m s) := by
  refine ⟨⟨nS_of (comeR_0 (by decide)), nC_of (comeR_0 (by decide)), comeR_0 (by decide), comeR_0 (by decide), comeR_0 (by decide)⟩, fun i hi => ?_, fun i hi h => ?_, fun j k hk => ?_, fun j h => ?_⟩
  · rw [comeR_S hi (by decide), if_neg (by omega), if_neg (by omega)]
  · rw [comeR_S hi (by decide)] at h
    by_cases e : i = m
    · rw [if_pos (by omega)] at h
      omega
    · rw [if_neg (by omega), if_neg (by omega)] at h
      exact h
  · rw [comeR_C hm (by omega), if_neg (by omega)]
  · rw [comeR_C hm (by decide)]
    by_cases e : j = s
    · rw [if_pos (by omega)]
      omega
    · rw [if_neg (by omega)]
      exact h
theorem yardZ_come {q : xR} {m s : Nat} (hn : nS q ≤ 10) (hm : m < nS q) (h5 : fS q m 5 = 0) : yardZ (comeR q m s) (nS q) = yardZ q (nS q) - 1 := by
  rw [yardZ_sum, yardZ_sum, sumN_upd (f := fun i => if fS q i 5 = 0 then 1 else 0) (s := m) (x := -1) (nS q) hm (fun i hi => by
    show (if fS (comeR q m s) i 5 = 0 then (1 : Int) else 0) = if i = m then (if fS q i 5 = 0 then (1 : Int) else 0) + -1 else (if fS q i 5 = 0 then (1 : Int) else 0)
    by_cases e : i = m
    · have e1 : fS (comeR q m s) i 5 = (s : Int) + 1 := by rw [comeR_S (by omega) (by decide), if_pos (by omega)]
      have e2 : fS q i 5 = 0 := by rw [e]; exact h5
      rw [e1, e2, if_pos e, if_neg (show ¬ ((s : Int) + 1 = 0) by omega), if_pos rfl]
      rfl
    · have e1 : fS (comeR q m s) i 5 = fS q i 5 := by rw [comeR_S (by omega) (by decide), if_neg (by omega), if_neg (by omega)]
      rw [e1, if_neg e])]
  omega
theorem giveL_all : ∀ (L : List Nat) (z : Int × xR), Jr z.2 → (∀ s ∈ L, s < nC z.2 ∧ openB z.2 s = true) → Jr (giveL L z).2 ∧ Gm z.2 (giveL L z).2 ∧ (giveL L z).1 + yardZ (giveL L z).2 (nS z.2) = z.1 + yardZ z.2 (nS z.2) ∧ z.1 ≤ (giveL L z).1 ∧ ((giveL L z).1 = z.1 → (giveL L z).2 = z.2) ∧ ∀ s ∈ L, fC (giveL L z).2 s 4 ≠ 0 ∨ yardF (giveL L z).2 s (nS z.2) = -5
  | [], z, h, _ => ⟨h, Gm.rf, rfl, Int.le_refl _, fun _ => rfl, fun _ hs => absurd hs List.not_mem_nil⟩
  | s :: L, z, h, hL => by
    rw [giveL_s]
    obtain ⟨hs, ho⟩ := hL s List.mem_cons_self
    have n6 := h.1.1.n6
    split
    · rename_i hc
      obtain ⟨u, hu, huS, hu5, huf⟩ := yardF_get hc.2
      have e : (yardF z.2 s (nS z.2)).toNat = u := by
        rw [hu]
        exact Int.toNat_natCast u
      rw [e]
      have ho2 := openB_iff.mp ho
      have hJ := h.come huS hs hu5 hc.1 huf ho2.2
      have hG : Gm z.2 (comeR z.2 u s) := Gm.come (by omega)
      obtain ⟨a1, a2, a3, a4, a5, a6⟩ := giveL_all L (z.1 + 1, comeR z.2 u s) hJ (fun x hx => by
        obtain ⟨b1, b2⟩ := hL x (List.mem_cons_of_mem _ hx)
        refine ⟨by rw [hG.1.2.1]; exact b1, ?_⟩
        unfold openB at b2 ⊢
        show decide (fC (comeR z.2 u s) x 2 ≤ comeR z.2 u s 0 ∧ comeR z.2 u s 0 < fC (comeR z.2 u s) x 3) = true
        rw [hG.2.2.2.1 x 2 (by decide), hG.2.2.2.1 x 3 (by decide), hG.1.2.2.1]
        exact b2)
      dsimp only at a1 a2 a3 a4 a5 a6
      rw [hG.1.1] at a3 a6
      refine ⟨a1, hG.trans a2, ?_, by omega, fun e2 => by omega, fun x hx => ?_⟩
      · rw [a3, yardZ_come n6.2 huS hu5]
        omega
      · rcases List.mem_cons.mp hx with e2 | hx
        · subst e2
          refine Or.inl (a2.2.2.2.2 x ?_)
          rw [comeR_C (by omega) (by decide), if_pos (by omega)]
          omega
        · exact a6 x hx
    · rename_i hc
      obtain ⟨a1, a2, a3, a4, a5, a6⟩ := giveL_all L z h (fun x hx => hL x (List.mem_cons_of_mem _ hx))
      refine ⟨a1, a2, a3, a4, a5, fun x hx => ?_⟩
      rcases List.mem_cons.mp hx with e2 | hx
      · subst e2
        by_cases h4 : fC z.2 x 4 = 0
        · have hy : yardF z.2 x (nS z.2) = -5 := Decidable.byContradiction fun hy => hc ⟨h4, hy⟩
          refine Or.inr (yardF_all (fun i hi h5 => ?_))
          rw [a2.2.1 i (by omega), a2.2.2.2.1 x 1 (by decide)]
          exact yardF_no hy i hi (a2.2.2.1 i (by omega) h5)
        · exact Or.inl (a2.2.2.2.2 x h4)
      · exact a6 x hx
/-! a swap -/
theorem partF_fit {r : xR} {s : Nat} : ∀ {n : Nat} {j : Nat}, partF r s n = (j : Int) → fC r s 1 ≤ fS r (hasN r j) 0
  | 0, j, h => by
    exfalso
    have : (-5 : Int) = (j : Int) := h
    omega
  | n + 1, j, h => by
    rw [partF_s] at h
    split at h
    · rename_i hc
      have e : j = n := by omega
      subst e
      exact hc.1.2.1
    · exact partF_fit h
theorem swap_same {r : xR} {s g u v : Nat} (hu : u < 10) (hv : v < 10) (hg : fC r g 4 = (u : Int) + 1) : comeR (comeR r v g) u s = comeR (comeR (backR r g) v g) u s := by
  have hm := hasN_is hg
  funext x
  unfold comeR backR freeR
  rw [hm]
  by_cases e7 : x = 16 + 10 * u + 7
  · rw [e7, fu_same, fu_same]
  rw [fu_ne e7, fu_ne e7]
  by_cases e6 : x = 16 + 10 * u + 6
  · rw [e6, fu_same, fu_same]
  rw [fu_ne e6, fu_ne e6]
  by_cases e5 : x = 16 + 10 * u + 5
  · rw [e5, fu_same, fu_same]
  rw [fu_ne e5, fu_ne e5]
  by_cases es : x = 116 + 10 * s + 4
  · rw [es, fu_same, fu_same]
  rw [fu_ne es, fu_ne es]
  by_cases f7 : x = 16 + 10 * v + 7
  · rw [f7, fu_same, fu_same]
  rw [fu_ne f7, fu_ne f7]
  by_cases f6 : x = 16 + 10 * v + 6
  · rw [f6, fu_same, fu_same]
  rw [fu_ne f6, fu_ne f6]
  by_cases f5 : x = 16 + 10 * v + 5
  · rw [f5, fu_same, fu_same]
  rw [fu_ne f5, fu_ne f5]
  by_cases eg : x = 116 + 10 * g + 4
  · rw [eg, fu_same, fu_same]
  rw [fu_ne eg, fu_ne eg, fu_ne eg, fu_ne e7, fu_ne e6, fu_ne e5]
theorem yardZ_back {q : xR} {g u : Nat} (hn : nS q ≤ 10) (hu : u < nS q) (h4 : fC q g 4 = (u : Int) + 1) (h5 : fS q u 5 ≠ 0) : yardZ (backR q g) (nS q) = yardZ q (nS q) + 1 := by
  rw [yardZ_sum, yardZ_sum, sumN_upd (f := fun i => if fS q i 5 = 0 then 1 else 0) (s := u) (x := 1) (nS q) hu (fun i hi => by
    show (if fS (backR q g) i 5 = 0 then (1 : Int) else 0) = if i = u then (if fS q i 5 = 0 then (1 : Int) else 0) + 1 else (if fS q i 5 = 0 then (1 : Int) else 0)
    by_cases e : i = u
    · have e1 : fS (backR q g) i 5 = 0 := by rw [backR_S (by omega) (by decide), hasN_is h4, if_pos (by omega)]
      have e2 : ¬ fS q i 5 = 0 := by rw [e]; exact h5
      rw [e1, if_pos e, if_pos rfl, if_neg e2]
      rfl
    · have e1 : fS (backR q g) i 5 = fS q i 5 := by rw [backR_S (by omega) (by decide), hasN_is h4, if_neg (by omega)]
      rw [e1, if_neg e])]
/-- a swap that is done: the site s, the giver g, the big set u, the small set v -/
def Sw (r : xR) (s g u v : Nat) : Prop := (s < nC r ∧ openB r s = true ∧ fC r s 4 = 0 ∧ yardF r s (nS r) = -5) ∧ (g < nC r ∧ fC r g 4 = (u : Int) + 1 ∧ u < nS r ∧ fC r s 1 ≤ fS r u 0) ∧ v < nS r ∧ fS r v 5 = 0 ∧ fC r g 1 ≤ fS r v 0
theorem swapL_get {r : xR} (h : Jr r) : ∀ L : List Nat, (∀ s ∈ L, s < nC r ∧ openB r s = true) → swapL r L = (-5, none) ∨ ∃ s g u v : Nat, Sw r s g u v ∧ swapL r L = (100 * (s : Int) + g, some (comeR (comeR r v g) u s))
  | [], _ => Or.inl rfl
  | s :: L, hL => by
    rw [swapL_s]
    obtain ⟨hs, ho⟩ := hL s List.mem_cons_self
    split
    · rename_i hc
      obtain ⟨g, hg, hgC, hg4, hgy⟩ := partF_get hc.2
      obtain ⟨v, hv, hvS, hv5, hvf⟩ := yardF_get hgy
      have hfit := partF_fit hg
      obtain ⟨hk, hke⟩ := hasN_lt h.1.1 hgC hg4
      have e : (partF r s (nC r)).toNat = g := by
        rw [hg]
        exact Int.toNat_natCast g
      have e2 : (yardF r g (nS r)).toNat = v := by
        rw [hv]
        exact Int.toNat_natCast v
      refine Or.inr ⟨s, g, hasN r g, v, ⟨⟨hs, ho, hc.1.1, hc.1.2⟩, ⟨hgC, by omega, hk, hfit⟩, hvS, hv5, hvf⟩, ?_⟩
      rw [e]
      unfold swapR
      rw [e2, hg]
    · exact swapL_get h L (fun x hx => hL x (List.mem_cons_of_mem _ hx))
theorem Sw.jr {r : xR} {s g u v : Nat} (h : Jr r) (hw : Sw r s g u v) : Jr (comeR (comeR r v g) u s) ∧ yardZ (comeR (comeR r v g) u s) (nS r) = yardZ r (nS r) - 1 ∧ fS r v 0 < fC r s 1 ∧ s ≠ g ∧ u ≠ v := by
  obtain ⟨⟨hs, ho, hs4, hsy⟩, ⟨hg, hg4, hu, huf⟩, hv, hv5, hvf⟩ := hw
  have n6 := h.1.1.n6
  have g5 := h.2.2.2.1 u g hg hg4
  have hsg : s ≠ g := fun e => by subst e; omega
  have huv : u ≠ v := fun e => by subst e; omega
  have ho2 := openB_iff.mp ho
  have eS1 : nS (backR r g) = nS r := nS_of (backR_0 (by decide))
  have eC1 : nC (backR r g) = nC r := nC_of (backR_0 (by decide))
  have fS1 : ∀ i k, i < 10 → k < 10 → fS (backR r g) i k = if i = u ∧ (k = 5 ∨ k = 6 ∨ k = 7) then 0 else fS r i k := fun i k hi hk => by rw [backR_S hi hk, hasN_is hg4]
  have fC1 : ∀ j k, k < 10 → fC (backR r g) j k = if j = g ∧ k = 4 then 0 else fC r j k := fun j k hk => backR_C (by rw [hasN_is hg4]; omega) hk
  have eS2 : nS (comeR (backR r g) v g) = nS r := (nS_of (comeR_0 (by decide))).trans eS1
  have eC2 : nC (comeR (backR r g) v g) = nC r := (nC_of (comeR_0 (by decide))).trans eC1
  have h1 := h.back hg hg4
  have h2 : Jr (comeR (backR r g) v g) := by
    refine h1.come (by omega) (by omega) ?_ ?_ ?_ ?_
    · rw [fS1 v 5 (by omega) (by decide), if_neg (by omega)]
      exact hv5
    · rw [fC1 g 4 (by decide), if_pos (by omega)]
    · rw [fC1 g 1 (by decide), fS1 v 0 (by omega) (by decide), if_neg (by omega), if_neg (by omega)]
      exact hvf
    · rw [fC1 g 3 (by decide), if_neg (by omega), show backR r g 0 = r 0 from backR_0 (by decide)]
      exact g5.2.2
  have h25 : fS (comeR (backR r g) v g) u 5 = 0 := by
    rw [comeR_S (by omega) (by decide), if_neg (by omega), if_neg (by omega), fS1 u 5 (by omega) (by decide), if_pos (by omega)]
  have h3 : Jr (comeR (comeR (backR r g) v g) u s) := by
    refine h2.come (by omega) (by omega) h25 ?_ ?_ ?_
    · rw [comeR_C (by omega) (by decide), if_neg (by omega), fC1 s 4 (by decide), if_neg (by omega)]
      exact hs4
    · rw [comeR_C (by omega) (by decide), if_neg (by omega), fC1 s 1 (by decide), if_neg (by omega), comeR_S (by omega) (by decide), if_neg (by omega), if_neg (by omega), fS1 u 0 (by omega) (by decide), if_neg (by omega)]
      exact huf
    · rw [comeR_C (by omega) (by decide), if_neg (by omega), fC1 s 3 (by decide), if_neg (by omega), show comeR (backR r g) v g 0 = r 0 from (comeR_0 (by decide)).trans (backR_0 (by decide))]
      exact ho2.2
  rw [swap_same (by omega) (by omega) hg4]
  refine ⟨h3, ?_, yardF_no hsy v hv hv5, hsg, huv⟩
  have y1 := yardZ_back n6.2 hu hg4 (by omega)
  have y2 := yardZ_come (q := backR r g) (m := v) (s := g) (by omega) (by omega) (by rw [fS1 v 5 (by omega) (by decide), if_neg (by omega)]; exact hv5)
  have y3 := yardZ_come (q := comeR (backR r g) v g) (m := u) (s := s) (by omega) (by omega) h25
  rw [eS1] at y2
  rw [eS2] at y3
  omega
/-! a fuel run -/
theorem fuelL_all (tr : Int) : ∀ (L : List Nat) (z : Int × xR), Jr z.2 → tr - z.1 ≤ z.2 3 → (∀ s ∈ L, s < nC z.2 ∧ 0 < fC z.2 s 4) → Jr (fuelL tr L z).2 ∧ ((nS (fuelL tr L z).2 = nS z.2 ∧ nC (fuelL tr L z).2 = nC z.2) ∧ (∀ j k, fC (fuelL tr L z).2 j k = fC z.2 j k) ∧ ∀ i k, k < 10 → k ≠ 4 → fS (fuelL tr L z).2 i k = fS z.2 i k) ∧ (sumN (fun i => fS (fuelL tr L z).2 i 4) (nS z.2) = sumN (fun i => fS z.2 i 4) (nS z.2) + ((fuelL tr L z).1 - z.1) ∧ (fuelL tr L z).2 3 = z.2 3 - ((fuelL tr L z).1 - z.1)) ∧ (z.1 ≤ (fuelL tr L z).1 ∧ (z.1 ≤ tr → (fuelL tr L z).1 ≤ tr) ∧ ((fuelL tr L z).1 = z.1 → (fuelL tr L z).2 = z.2)) ∧ (∀ i, i < nS z.2 → fS z.2 i 4 = fS z.2 i 1 → fS (fuelL tr L z).2 i 4 = fS z.2 i 1) ∧ ((fuelL tr L z).1 < tr → ∀ s ∈ L, ∀ i : Nat, fC z.2 s 4 = (i : Int) + 1 → fS (fuelL tr L z).2 i 4 = fS z.2 i 1)
  | [], z, h, _, _ => ⟨h, ⟨⟨rfl, rfl⟩, fun _ _ => rfl, fun _ _ _ _ => rfl⟩, ⟨by show _ = _ + (z.1 - z.1); rw [Int.sub_self, Int.add_zero]; rfl, by show z.2 3 = z.2 3 - (z.1 - z.1); omega⟩, ⟨Int.le_refl _, fun e => e, fun _ => rfl⟩, fun _ _ e => e, fun _ s hs => absurd hs List.not_mem_nil⟩
  | s :: L, z, h, h3, hL => by
    rw [fuelL_s]
    obtain ⟨hs, h4⟩ := hL s List.mem_cons_self
    have n6 := h.1.1.n6
    obtain ⟨hm, hme⟩ := hasN_lt h.1.1 hs h4
    split
    · rename_i hc
      have hl := lessI_lim (fS z.2 (hasN z.2 s) 1 - fS z.2 (hasN z.2 s) 4) (tr - z.1)
      generalize lessI (fS z.2 (hasN z.2 s) 1 - fS z.2 (hasN z.2 s) 4) (tr - z.1) = x at hc hl ⊢
      generalize hasN z.2 s = u at hm hme hl ⊢
      have hJ := h.fill (x := x) hm (by omega) (by omega)
      obtain ⟨eS, eC, e3⟩ := fillR_n (r := z.2) (x := x) (u := u)
      have g : ∀ j k, fC (fillR z.2 u x) j k = fC z.2 j k := fun j k => by
        unfold fillR
        rw [fC_fu0 (by decide), fC_fuS (by omega) (by decide)]
      have f : ∀ q k, k < 10 → fS (fillR z.2 u x) q k = if q = u ∧ k = 4 then fS z.2 u 4 + x else fS z.2 q k := fun q k hk => by
        unfold fillR
        rw [fS_fu0 (by decide), fS_fuS (by decide) hk]
      have ih := fuelL_all tr L (z.1 + x, fillR z.2 u x) hJ (by
        show tr - (z.1 + x) ≤ fillR z.2 u x 3
        omega) (fun y hy => by
        show y < nC (fillR z.2 u x) ∧ 0 < fC (fillR z.2 u x) y 4
        rw [eC, g]
        exact hL y (List.mem_cons_of_mem _ hy))
      generalize fuelL tr L (z.1 + x, fillR z.2 u x) = Z at ih ⊢
      obtain ⟨a1, ⟨⟨a2, a3⟩, a4, a5⟩, ⟨a6, a7⟩, ⟨a8, a9, a10⟩, a11, a12⟩ := ih
      dsimp only at a2 a3 a4 a5 a6 a7 a8 a9 a10 a11 a12
      rw [eS] at a6 a11
      have f1 : ∀ i, fS (fillR z.2 u x) i 1 = fS z.2 i 1 := fun i => by rw [f i 1 (by decide), if_neg (by omega)]
      refine ⟨a1, ⟨⟨a2.trans eS, a3.trans eC⟩, fun j k => (a4 j k).trans (g j k), fun i k hk hk4 => by rw [a5 i k hk hk4, f i k hk, if_neg (by omega)]⟩, ⟨?_, by omega⟩, ⟨by omega, fun _ => a9 (by omega), fun e => by omega⟩, fun i hi e => ?_, fun ht y hy i hi => ?_⟩
      · rw [a6, sumN_upd (f := fun i => fS z.2 i 4) (s := u) (x := x) (nS z.2) hm (fun q hq => by
          rw [f q 4 (by decide)]
          by_cases e : q = u
          · subst e
            rw [if_pos (by omega), if_pos rfl]
          · rw [if_neg (by omega), if_neg e])]
        omega
      · have hiu : i ≠ u := fun e2 => by subst e2; omega
        rw [a11 i hi (by rw [f i 4 (by decide), f i 1 (by decide), if_neg (by omega), if_neg (by omega)]; exact e), f1]
      · rcases List.mem_cons.mp hy with e2 | hy
        · subst e2
          have hiu : i = u := by omega
          subst hiu
          rw [a11 i hm (by rw [f i 4 (by decide), f i 1 (by decide), if_pos (by omega), if_neg (by omega)]; omega), f1]
        · rw [a12 ht y hy i (by rw [g]; exact hi), f1]
    · rename_i hc
      have ih := fuelL_all tr L z h h3 (fun x hx => hL x (List.mem_cons_of_mem _ hx))
      have hl := lessI_lim (fS z.2 (hasN z.2 s) 1 - fS z.2 (hasN z.2 s) 4) (tr - z.1)
      have v := (h.1.1.2.1 _ hm).2.2.2.2.1
      generalize fuelL tr L z = Z at ih ⊢
      obtain ⟨a1, a2, a6, ⟨a8, a9, a10⟩, a11, a12⟩ := ih
      refine ⟨a1, a2, a6, ⟨a8, a9, a10⟩, a11, fun ht y hy i hi => ?_⟩
      rcases List.mem_cons.mp hy with e2 | hy
      · subst e2
        rw [hasN_is hi] at hm hl hc v
        exact a11 i hm (by omega)
      · exact a12 ht y hy i hi
