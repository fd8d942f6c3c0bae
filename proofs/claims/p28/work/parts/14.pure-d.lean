/-! lists by a key -/
def SortK (key : Nat → Int) (L : List Nat) : Prop := L.Pairwise (fun a b => key b ≤ key a)
theorem insK_mem {key : Nat → Int} {x y : Nat} : ∀ {L : List Nat}, y ∈ insK key x L ↔ y = x ∨ y ∈ L
  | [] => by simp [insK]
  | z :: t => by
    unfold insK
    split
    · simp
    · simp only [List.mem_cons, insK_mem (L := t)]
      constructor
      · rintro (h | h | h)
        · exact Or.inr (Or.inl h)
        · exact Or.inl h
        · exact Or.inr (Or.inr h)
      · rintro (h | h | h)
        · exact Or.inr (Or.inl h)
        · exact Or.inl h
        · exact Or.inr (Or.inr h)
theorem insK_len {key : Nat → Int} {x : Nat} : ∀ {L : List Nat}, (insK key x L).length = L.length + 1
  | [] => rfl
  | z :: t => by
    unfold insK
    split
    · rfl
    · simp only [List.length_cons, insK_len (L := t)]
theorem insK_sort {key : Nat → Int} {x : Nat} : ∀ {L : List Nat}, SortK key L → SortK key (insK key x L)
  | [], _ => by simp [insK, SortK]
  | z :: t, h => by
    unfold SortK at h
    rw [List.pairwise_cons] at h
    unfold insK
    split
    · rename_i hz
      unfold SortK
      rw [List.pairwise_cons, List.pairwise_cons]
      refine ⟨fun a ha => ?_, h⟩
      rcases List.mem_cons.mp ha with e | ha
      · rw [e]; omega
      · have := h.1 a ha
        omega
    · rename_i hz
      unfold SortK
      rw [List.pairwise_cons]
      refine ⟨fun a ha => ?_, insK_sort (L := t) h.2⟩
      rcases insK_mem.mp ha with e | ha
      · rw [e]; omega
      · exact h.1 a ha
theorem sortK_s (key : Nat → Int) (P : Nat → Bool) (n : Nat) : sortK key P (n + 1) = if P n then insK key n (sortK key P n) else sortK key P n := rfl
theorem sortK_sort (key : Nat → Int) (P : Nat → Bool) : ∀ n, SortK key (sortK key P n)
  | 0 => List.Pairwise.nil
  | n + 1 => by
    rw [sortK_s]
    split
    · exact insK_sort (sortK_sort key P n)
    · exact sortK_sort key P n
theorem sortK_mem {key : Nat → Int} {P : Nat → Bool} {x : Nat} : ∀ {n : Nat}, x ∈ sortK key P n ↔ x < n ∧ P x = true
  | 0 => by simp [sortK]
  | n + 1 => by
    rw [sortK_s]
    by_cases h : P n = true
    · rw [if_pos h, insK_mem, sortK_mem (n := n)]
      constructor
      · rintro (e | e)
        · subst e; exact ⟨by omega, h⟩
        · exact ⟨by omega, e.2⟩
      · intro e
        by_cases hx : x = n
        · exact Or.inl hx
        · exact Or.inr ⟨by omega, e.2⟩
    · rw [if_neg h, sortK_mem (n := n)]
      constructor
      · intro e; exact ⟨by omega, e.2⟩
      · intro e
        refine ⟨?_, e.2⟩
        by_cases hx : x = n
        · subst hx; exact absurd e.2 h
        · omega
theorem sortK_len (key : Nat → Int) (P : Nat → Bool) : ∀ n, (sortK key P n).length = cntN P n
  | 0 => rfl
  | n + 1 => by
    rw [sortK_s, cntN_s]
    split
    · rw [insK_len, sortK_len key P n]
    · rw [sortK_len key P n]; rfl
theorem insK_split {key : Nat → Int} {x : Nat} : ∀ (L : List Nat) (p : Nat), p ≤ L.length → (∀ j, j < p → ¬ key (L.getD j 0) < key x) → (p < L.length → key (L.getD p 0) < key x) → insK key x L = L.take p ++ x :: L.drop p
  | [], p, h, _, _ => by
    have : p = 0 := by simpa using h
    subst this
    rfl
  | y :: t, 0, _, _, h2 => by
    have hy : key y < key x := by simpa using h2 (by simp)
    unfold insK
    rw [if_pos hy]
    rfl
  | y :: t, p + 1, h, h1, h2 => by
    have hy : ¬ key y < key x := by simpa using h1 0 (by omega)
    unfold insK
    rw [if_neg hy, insK_split t p (by simpa using h) (fun j hj => by simpa using h1 (j + 1) (by omega)) (fun hp => by simpa using h2 (by simpa using hp))]
    rfl
theorem insAt_getD {L : List Nat} {p x j : Nat} (hp : p ≤ L.length) : (L.take p ++ x :: L.drop p).getD j 0 = if j < p then L.getD j 0 else if j = p then x else L.getD (j - 1) 0 := by
  have hl : (L.take p).length = p := by simp [hp]
  simp only [List.getD_eq_getElem?_getD]
  by_cases h1 : j < p
  · rw [if_pos h1, List.getElem?_append_left (by omega), List.getElem?_take, if_pos h1]
  · rw [if_neg h1, List.getElem?_append_right (by omega), hl]
    by_cases h2 : j = p
    · subst h2
      simp
    · rw [if_neg h2]
      obtain ⟨q, hq⟩ : ∃ q, j - p = q + 1 := ⟨j - p - 1, by omega⟩
      rw [hq, List.getElem?_cons_succ, List.getElem?_drop]
      rw [show p + q = j - 1 by omega]
/-- how many of the first n are ahead of s -/
def rankN (key : Nat → Int) (P : Nat → Bool) (n s : Nat) : Nat := cntN (fun k => P k && decide (key s < key k ∨ key k = key s ∧ k < s)) n
theorem insK_count {key : Nat → Int} {x : Nat} {q : Nat → Bool} : ∀ {L : List Nat}, (insK key x L).countP q = L.countP q + (if q x then 1 else 0)
  | [] => by
    unfold insK
    rw [List.countP_cons]
  | z :: t => by
    unfold insK
    split
    · rw [List.countP_cons]
    · rw [List.countP_cons, insK_count (L := t), List.countP_cons]
      omega
theorem sortK_count (key : Nat → Int) (P q : Nat → Bool) : ∀ n, (sortK key P n).countP q = cntN (fun k => P k && q k) n
  | 0 => rfl
  | n + 1 => by
    rw [sortK_s, cntN_s]
    cases h : P n with
    | true => 
      rw [if_pos rfl, insK_count, sortK_count key P q n]
      simp
    | false =>
      rw [if_neg (by decide), sortK_count key P q n]
      simp
theorem insK_at {key : Nat → Int} {x : Nat} : ∀ {L : List Nat}, SortK key L → (insK key x L)[L.countP (fun y => !decide (key y < key x))]? = some x
  | [], _ => rfl
  | z :: t, h => by
    unfold SortK at h
    rw [List.pairwise_cons] at h
    unfold insK
    by_cases hz : key z < key x
    · rw [if_pos hz]
      have h0 : (z :: t).countP (fun y => !decide (key y < key x)) = 0 := by
        rw [List.countP_eq_zero]
        intro a ha
        rcases List.mem_cons.mp ha with e | ha
        · rw [e]; simp [hz]
        · have := h.1 a ha
          have h3 : key a < key x := by omega
          simp [h3]
      rw [h0]
      rfl
    · rw [if_neg hz, List.countP_cons]
      simp only [hz, decide_false, Bool.not_false, if_true]
      rw [List.getElem?_cons_succ]
      exact insK_at (L := t) h.2
theorem insK_old {key : Nat → Int} {x y : Nat} : ∀ {L : List Nat} {q : Nat}, SortK key L → L[q]? = some y → (insK key x L)[if key y < key x then q + 1 else q]? = some y
  | [], q, _, hq => by simp at hq
  | z :: t, q, h, hq => by
    unfold SortK at h
    rw [List.pairwise_cons] at h
    unfold insK
    by_cases hz : key z < key x
    · rw [if_pos hz]
      have hy : key y < key x := by
        rcases List.mem_cons.mp (List.mem_of_getElem? hq) with e | hm
        · rw [e]; exact hz
        · have := h.1 y hm
          omega
      rw [if_pos hy, List.getElem?_cons_succ]
      exact hq
    · rw [if_neg hz]
      cases q with
      | zero =>
        rw [List.getElem?_cons_zero] at hq
        cases hq
        rw [if_neg hz]
        rfl
      | succ q =>
        rw [List.getElem?_cons_succ] at hq
        have ih := insK_old (key := key) (x := x) (L := t) (q := q) h.2 hq
        by_cases hy : key y < key x
        · rw [if_pos hy] at ih ⊢
          rw [List.getElem?_cons_succ]
          exact ih
        · rw [if_neg hy] at ih ⊢
          rw [List.getElem?_cons_succ]
          exact ih
theorem sortK_rank (key : Nat → Int) (P : Nat → Bool) : ∀ (n s : Nat), s < n → P s = true → (sortK key P n)[rankN key P n s]? = some s
  | 0, s, h, _ => by omega
  | n + 1, s, h, hP => by
    rw [sortK_s]
    unfold rankN
    rw [cntN_s]
    by_cases hs : s = n
    · subst hs
      rw [if_pos hP]
      have h0 : (P s && decide (key s < key s ∨ key s = key s ∧ s < s)) = false := by simp
      rw [h0]
      have hc : cntN (fun k => P k && decide (key s < key k ∨ key k = key s ∧ k < s)) s = (sortK key P s).countP (fun y => !decide (key y < key s)) := by
        rw [sortK_count]
        have : ∀ m, m ≤ s → cntN (fun k => P k && decide (key s < key k ∨ key k = key s ∧ k < s)) m = cntN (fun k => P k && !decide (key k < key s)) m := by
          intro m
          induction m with
          | zero => intro _; rfl
          | succ m ih =>
            intro hm
            rw [cntN_s, cntN_s, ih (by omega)]
            congr 2
            have e : decide (key s < key m ∨ key m = key s ∧ m < s) = !decide (key m < key s) := by
              by_cases hk : key m < key s
              · simp only [hk, decide_true, Bool.not_true, decide_eq_false_iff_not]
                omega
              · simp only [hk, decide_false, Bool.not_false, decide_eq_true_eq]
                omega
            rw [e]
        exact this s (Nat.le_refl s)
      rw [hc]
      exact insK_at (sortK_sort key P s)
    · have hlt : s < n := by omega
      have ih := sortK_rank key P n s hlt hP
      unfold rankN at ih
      by_cases hn : P n = true
      · rw [if_pos hn]
        have io := insK_old (x := n) (sortK_sort key P n) ih
        have e : (P n && decide (key s < key n ∨ key n = key s ∧ n < s)) = decide (key s < key n) := by
          rw [hn, Bool.true_and]
          by_cases hk : key s < key n
          · simp only [hk, true_or, decide_true]
          · simp only [hk, false_or, decide_false, decide_eq_false_iff_not]
            omega
        rw [e]
        by_cases hk : key s < key n
        · rw [if_pos hk] at io
          simpa [hk] using io
        · rw [if_neg hk] at io
          simpa [hk] using io
      · rw [if_neg hn]
        have e : P n = false := by simpa using hn
        rw [e]
        simpa using ih
