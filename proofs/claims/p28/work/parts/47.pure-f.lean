/-! what stands behind a row's end stays; every act keeps a row in order -/
def Tl (r r' : xR) : Prop := ∀ z, 236 ≤ z → r' z = r z
theorem Tl.rf {r : xR} : Tl r r := fun _ _ => rfl
theorem Tl.trans {r r1 r2 : xR} (h : Tl r r1) (h2 : Tl r1 r2) : Tl r r2 := fun z hz => (h2 z hz).trans (h z hz)
theorem Tl.up {r r' : xR} {k : Nat} {x : Int} (h : Tl r r') (hk : k < 236) : Tl r (fu r' k x) := fun z hz => (fu_ne (by omega)).trans (h z hz)
theorem Tl.lit {r : xR} {s : Nat} (hm : hasN r s < 10) (hs : s < 12) : Tl r (litR r s) := by
  unfold litR
  exact (((((((Tl.rf.up (by omega)).up (by omega)).up (by omega)).up (by omega)).up (by omega)).up (by omega)).up (by omega)).up (by omega)
theorem Tl.dark {r : xR} {s : Nat} {c : Int} (hm : c = 3 → hasN r s < 10) (hs : s < 12) : Tl r (darkR r s c) := by
  unfold darkR
  by_cases hc : c = 3
  · have h10 := hm hc
    simp only [hc, if_true]
    exact ((((Tl.rf.up (by omega)).up (by omega)).up (by omega)).up (by omega)).up (by omega)
  · simp only [hc, if_false]
    exact (((Tl.rf.up (by omega)).up (by omega)).up (by omega)).up (by omega)
theorem Tl.come {r : xR} {m s : Nat} (hm : m < 10) (hs : s < 12) : Tl r (comeR r m s) := by
  unfold comeR
  exact (((Tl.rf.up (by omega)).up (by omega)).up (by omega)).up (by omega)
theorem Tl.back {r : xR} {s : Nat} (hm : hasN r s < 10) (hs : s < 12) : Tl r (backR r s) := by
  unfold backR freeR
  exact (((Tl.rf.up (by omega)).up (by omega)).up (by omega)).up (by omega)
theorem Tl.fill {r : xR} {m : Nat} {x : Int} (hm : m < 10) : Tl r (fillR r m x) := by
  unfold fillR
  exact (Tl.rf.up (by omega)).up (by omega)
theorem Tl.addSet {r : xR} {x0 x1 x2 x3 : Int} (hn : nS r < 10) : Tl r (addSetR r x0 x1 x2 x3) := fun z hz => by
  unfold addSetR
  rw [if_neg (by omega), if_neg (by omega), if_neg (by omega), if_neg (by omega), if_neg (by omega), if_neg (by omega)]
theorem Tl.addSite {r : xR} {x0 x1 x2 x3 : Int} (hn : nC r < 12) : Tl r (addSiteR r x0 x1 x2 x3) := fun z hz => by
  unfold addSiteR
  rw [if_neg (by omega), if_neg (by omega), if_neg (by omega), if_neg (by omega), if_neg (by omega), if_neg (by omega)]
theorem Tl.hr {r : xR} {w d : Int} {s : Nat} (h : Vb r w d) (hs : s < nC r) : Tl r (hrS r s) := by
  have n6 := h.n6
  have n7 := h.n7
  have hm : fC r s 4 ≠ 0 → hasN r s < 10 := fun h4 => by
    have v4 := (h.2.2 s hs).2.2.2.2.1
    have := (hasN_lt h hs (by omega)).1
    omega
  unfold hrS
  split
  · rename_i hc
    exact Tl.lit (hm (causeR_0 hc).1) (by omega)
  · refine Tl.dark (fun h3 => hm (fun h4 => ?_)) (by omega)
    unfold causeR at h3
    rw [if_pos h4] at h3
    omega
theorem Tl.pS {r : xR} {w : Int} (h : Vb r w w) : ∀ n : Nat, n ≤ nC r → Tl r (passS r n)
  | 0, _ => fun _ _ => rfl
  | n + 1, hn => by
    have ih := Tl.pS h n (by omega)
    rw [passS_s]
    split
    · exact ih.trans (Tl.hr (h.pS n (by omega)) (by rw [(passS_n r n).2.1]; omega))
    · exact ih
theorem Tl.pT {r : xR} {w d : Int} (h : Vb r w d) (hw : 0 ≤ w) : ∀ n : Nat, n ≤ nC r → Tl r (passT r n)
  | 0, _ => fun _ _ => rfl
  | n + 1, hn => by
    have ih := Tl.pT h hw n (by omega)
    have iV := h.pT hw n (by omega)
    have n6 := iV.n6
    have n7 := h.n7
    rw [passT_s]
    split
    · unfold relR
      split
      · rename_i h4
        have hm := (hasN_lt iV (by rw [nC_of (passT_n r n 7 (by decide))]; omega) h4).1
        exact ih.trans (Tl.back (by omega) (by omega))
      · exact ih
    · exact ih
theorem Tl.hour {r : xR} (h : Vr r) (h0 : r 0 + 1 ≤ 999) : Tl r (hourR r) := by
  have hb := h.1.1
  have h1 : Tl r (upR r) := by
    unfold upR
    exact (Tl.pS h.1 (nC r) (Nat.le_refl _)).up (by decide)
  exact h1.trans (Tl.pT (h.1.up h0) (by omega) (nC r) (by rw [upR_nC]; exact Nat.le_refl _))
theorem Tl.hours {r : xR} (h : Vr r) : ∀ n : Nat, r 0 + n ≤ 999 → Tl r (hoursR r n)
  | 0, _ => fun _ _ => rfl
  | n + 1, hn => by
    rw [hoursR_s]
    exact (Tl.hours h n (by omega)).trans (Tl.hour (h.hours n (by omega)) (by rw [(hoursR_n r n).2.2.1]; omega))
/-! a row that is the same up to its end -/
theorem Vb.congr {r r' : xR} {w d : Int} (h : Vb r w d) (e : ∀ k, k < 236 → r' k = r k) : Vb r' w d := by
  have n6 := h.n6
  have n7 := h.n7
  have eS : nS r' = nS r := nS_of (e 6 (by decide))
  have eC : nC r' = nC r := nC_of (e 7 (by decide))
  refine ⟨?_, fun i hi => ?_, fun i hi => ?_⟩
  · rw [e 0 (by decide), e 1 (by decide), e 2 (by decide), e 3 (by decide), e 6 (by decide), e 7 (by decide)]
    exact h.1
  · rw [eS] at hi
    have g := h.2.1 i hi
    have f : ∀ k, k < 10 → fS r' i k = fS r i k := fun k hk => e _ (by omega)
    unfold Vset at g ⊢
    rw [f 0 (by decide), f 1 (by decide), f 2 (by decide), f 3 (by decide), f 4 (by decide), f 5 (by decide), f 6 (by decide), f 7 (by decide), e 7 (by decide)]
    exact g
  · rw [eC] at hi
    have g := h.2.2 i hi
    have f : ∀ k, k < 10 → fC r' i k = fC r i k := fun k hk => e _ (by omega)
    unfold Vsite at g ⊢
    rw [f 0 (by decide), f 1 (by decide), f 2 (by decide), f 3 (by decide), f 4 (by decide), f 6 (by decide), f 8 (by decide), e 6 (by decide)]
    exact g
theorem darkM_congr {r r0 r0' : xR} : ∀ n, (∀ i, i < n → fC r0' i 6 = fC r0 i 6) → darkM r r0' n = darkM r r0 n
  | 0, _ => rfl
  | n + 1, h => by rw [darkM_s, darkM_s, darkM_congr n (fun i hi => h i (by omega)), h n (by omega)]
theorem darkB_congr {r r0 r0' : xR} : ∀ n, (∀ i, i < n → fC r0' i 6 = fC r0 i 6) → darkB r r0' n = darkB r r0 n
  | 0, _ => rfl
  | n + 1, h => by rw [darkB_s, darkB_s, darkM_congr n (fun i hi => h i (by omega)), darkB_congr n (fun i hi => h i (by omega)), h n (by omega)]
/-! rows in order -/
theorem Vr.set0 {r : xR} {j : Nat} {x : Int} (h : Vr r) (hj : j = 1 ∧ -30 ≤ x ∧ x ≤ 20 ∨ j = 2 ∧ 1 ≤ x ∧ x ≤ 99 ∨ j = 3 ∧ 0 ≤ x ∧ x ≤ 50000 ∨ j = 5) : Vr (fu r j x) := by
  obtain ⟨j16, j0, j6, j7, j8, j9, j10⟩ : j < 16 ∧ j ≠ 0 ∧ j ≠ 6 ∧ j ≠ 7 ∧ j ≠ 8 ∧ j ≠ 9 ∧ j ≠ 10 := by omega
  have e0 : fu r j x 0 = r 0 := fu_ne (Ne.symm j0)
  have e6 : fu r j x 6 = r 6 := fu_ne (Ne.symm j6)
  have e7 : fu r j x 7 = r 7 := fu_ne (Ne.symm j7)
  refine ⟨⟨?_, fun i hi => ?_, fun i hi => ?_⟩, ?_⟩
  · have g := h.1.1
    rcases hj with ⟨e, h1, h2⟩ | ⟨e, h1, h2⟩ | ⟨e, h1, h2⟩ | e <;> subst e <;> simp [fu_at] <;> omega
  · rw [nS_of e6] at hi
    have g := h.1.2.1 i hi
    unfold Vset at g ⊢
    simp only [fS_fu0 j16]
    rw [e7, e0]
    exact g
  · rw [nC_of e7] at hi
    have g := h.1.2.2 i hi
    unfold Vsite at g ⊢
    simp only [fC_fu0 j16]
    rw [e6, e0]
    exact g
  · exact h.2.of (fu_ne (Ne.symm j8)) (fu_ne (Ne.symm j9)) (fu_ne (Ne.symm j10)) (nC_of e7) (fun i _ => fC_fu0 j16) (fun i _ => fC_fu0 j16) (fun i _ => fC_fu0 j16)
theorem Vb.addSet {r : xR} {w d x0 x1 x2 x3 : Int} (h : Vb r w d) (hw : 0 ≤ w) (hn : nS r < 10) (h0 : 1 ≤ x0 ∧ x0 ≤ 99) (h1 : 10 ≤ x1 ∧ x1 ≤ 500) (h2 : 1 ≤ x2 ∧ x2 ≤ 50) (h3 : -30 ≤ x3 ∧ x3 ≤ 10) : Vb (addSetR r x0 x1 x2 x3) w d := by
  obtain ⟨n6, n6b⟩ := h.n6
  obtain ⟨n7, n7b⟩ := h.n7
  obtain ⟨a1, a2, a3⟩ := addSetR_n (x0 := x0) (x1 := x1) (x2 := x2) (x3 := x3) n6
  have e0 : ∀ k, k < 16 → k ≠ 6 → addSetR r x0 x1 x2 x3 k = r k := fun k hk h6 => addSetR_0 hk h6
  refine ⟨?_, fun i hi => ?_, fun i hi => ?_⟩
  · rw [e0 0 (by decide) (by decide), e0 1 (by decide) (by decide), e0 2 (by decide) (by decide), e0 3 (by decide) (by decide), a3, e0 7 (by decide) (by decide)]
    have g := h.1
    omega
  · rw [a1] at hi
    by_cases hin : i = nS r
    · subst hin
      obtain ⟨g0, g1, g2, g3, g4, g5, g6, g7, g8⟩ := addSetR_N r x0 x1 x2 x3
      unfold Vset
      rw [g0, g1, g2, g3, g4, g5, g6, g7, e0 7 (by decide) (by decide)]
      omega
    · have g := h.2.1 i (by omega)
      have e : ∀ k, k < 10 → fS (addSetR r x0 x1 x2 x3) i k = fS r i k := fun k hk => addSetR_S (by omega) hk
      unfold Vset at g ⊢
      rw [e 0 (by decide), e 1 (by decide), e 2 (by decide), e 3 (by decide), e 4 (by decide), e 5 (by decide), e 6 (by decide), e 7 (by decide), e0 7 (by decide) (by decide)]
      exact g
  · rw [a2] at hi
    have g := h.2.2 i hi
    have e : ∀ k, fC (addSetR r x0 x1 x2 x3) i k = fC r i k := fun k => addSetR_C hn
    unfold Vsite at g ⊢
    rw [e 0, e 1, e 2, e 3, e 4, e 6, e 8, a3]
    omega
theorem Vr.addSet {r : xR} {x0 x1 x2 x3 : Int} (h : Vr r) (hn : nS r < 10) (h0 : 1 ≤ x0 ∧ x0 ≤ 99) (h1 : 10 ≤ x1 ∧ x1 ≤ 500) (h2 : 1 ≤ x2 ∧ x2 ≤ 50) (h3 : -30 ≤ x3 ∧ x3 ≤ 10) : Vr (addSetR r x0 x1 x2 x3) := by
  have hb := h.1.1
  obtain ⟨a1, a2, a3⟩ := addSetR_n (x0 := x0) (x1 := x1) (x2 := x2) (x3 := x3) h.1.n6.1
  have e0 : ∀ k, k < 16 → k ≠ 6 → addSetR r x0 x1 x2 x3 k = r k := fun k hk h6 => addSetR_0 hk h6
  refine ⟨?_, h.2.of (e0 8 (by decide) (by decide)) (e0 9 (by decide) (by decide)) (e0 10 (by decide) (by decide)) a2 (fun i _ => addSetR_C hn) (fun i _ => addSetR_C hn) (fun i _ => addSetR_C hn)⟩
  rw [e0 0 (by decide) (by decide)]
  exact Vb.addSet h.1 (by omega) hn h0 h1 h2 h3
theorem Vr.addSite {r : xR} {x0 x1 x2 x3 : Int} (h : Vr r) (hn : nC r < 12) (h0 : 1 ≤ x0 ∧ x0 ≤ 9) (h1 : 1 ≤ x1 ∧ x1 ≤ 99) (h2 : 0 ≤ x2 ∧ x2 ≤ 998) (h3 : 1 ≤ x3 ∧ x3 ≤ 999) : Vr (addSiteR r x0 x1 x2 x3) := by
  have hb := h.1.1
  obtain ⟨a1, a2, a3⟩ := addSiteR_n (x0 := x0) (x1 := x1) (x2 := x2) (x3 := x3) h.1.n7.1
  have e0 : ∀ k, k < 16 → k ≠ 7 → addSiteR r x0 x1 x2 x3 k = r k := fun k hk h7 => addSiteR_0 hk h7
  obtain ⟨-, -, -, -, -, g5, g6, g7, -⟩ := addSiteR_N r x0 x1 x2 x3
  obtain ⟨s8, s9, s10⟩ := h.2
  have es : ∀ k, k < 10 → sumN (fun i => fC (addSiteR r x0 x1 x2 x3) i k) (nC r + 1) = sumN (fun i => fC r i k) (nC r) + fC (addSiteR r x0 x1 x2 x3) (nC r) k := fun k hk => by
    rw [sumN_s]
    exact congrArg (fun q => q + fC (addSiteR r x0 x1 x2 x3) (nC r) k) (sumN_congr (nC r) (fun i hi => addSiteR_C hi hk))
  have es5 := es 5 (by decide)
  have es6 := es 6 (by decide)
  have es7 := es 7 (by decide)
  refine ⟨?_, ?_, ?_, ?_⟩
  · rw [e0 0 (by decide) (by decide)]
    exact Vb.addSite h.1 (by omega) hn h0 h1 h2 h3
  · rw [e0 8 (by decide) (by decide), a1, es5, g5, s8]
    exact (Int.add_zero _).symm
  · rw [e0 9 (by decide) (by decide), a1, es6, g6, s9]
    exact (Int.add_zero _).symm
  · rw [e0 10 (by decide) (by decide), a1, es7, g7, s10]
    exact (Int.add_zero _).symm
theorem Vr.come {r : xR} {u j : Nat} (h : Vr r) (hu : u < nS r) (hj : j < nC r) : Vr (comeR r u j) := by
  have hb := h.1.1
  have n6 := h.1.n6
  have f : ∀ i k, k < 10 → k ≠ 4 → fC (comeR r u j) i k = fC r i k := fun i k hk h4 => by
    rw [comeR_C (by omega) hk, if_neg (by omega)]
  refine ⟨?_, h.2.of (comeR_0 (by decide)) (comeR_0 (by decide)) (comeR_0 (by decide)) (nC_of (comeR_0 (by decide))) (fun i _ => f i 5 (by decide) (by decide)) (fun i _ => f i 6 (by decide) (by decide)) (fun i _ => f i 7 (by decide) (by decide))⟩
  rw [show comeR r u j 0 = r 0 from comeR_0 (by decide)]
  exact h.1.come (by omega) hu hj
theorem Vr.back {r : xR} {j : Nat} (h : Vr r) (hj : j < nC r) (h4 : 0 < fC r j 4) : Vr (backR r j) := by
  have hb := h.1.1
  have n6 := h.1.n6
  have hm := (hasN_lt h.1 hj h4).1
  have f : ∀ i k, k < 10 → k ≠ 4 → fC (backR r j) i k = fC r i k := fun i k hk h4 => by
    rw [backR_C (by omega) hk, if_neg (by omega)]
  refine ⟨?_, h.2.of (backR_0 (by decide)) (backR_0 (by decide)) (backR_0 (by decide)) (nC_of (backR_0 (by decide))) (fun i _ => f i 5 (by decide) (by decide)) (fun i _ => f i 6 (by decide) (by decide)) (fun i _ => f i 7 (by decide) (by decide))⟩
  rw [show backR r j 0 = r 0 from backR_0 (by decide)]
  exact h.1.back (by omega) hj h4
theorem Vr.fill {r : xR} {u : Nat} {x : Int} (h : Vr r) (hu : u < nS r) (hx : 0 ≤ x ∧ x ≤ fS r u 1 - fS r u 4) (h3 : x ≤ r 3) : Vr (fillR r u x) := by
  have n6 := h.1.n6
  have f : ∀ i k, fC (fillR r u x) i k = fC r i k := fun i k => by
    unfold fillR
    rw [fC_fu0 (by decide), fC_fuS (by omega) (by decide)]
  have e0 : ∀ k, k < 16 → k ≠ 3 → fillR r u x k = r k := fun k hk h3 => by unfold fillR; rw [fu_ne h3, at_fuS hk]
  refine ⟨?_, h.2.of (e0 8 (by decide) (by decide)) (e0 9 (by decide) (by decide)) (e0 10 (by decide) (by decide)) (fillR_n).2.1 (fun i _ => f i 5) (fun i _ => f i 6) (fun i _ => f i 7)⟩
  rw [e0 0 (by decide) (by decide)]
  exact h.1.fill hu hx h3
/-! the acts -/
def Ok (r : xR) (o : Option xR) : Prop := ∀ q, o = some q → Vr q ∧ Tl r q
theorem Ok.no {r : xR} : Ok r none := fun q h => by cases h
theorem Ok.so {r q : xR} (h : Vr q ∧ Tl r q) : Ok r (some q) := fun p hp => by cases hp; exact h
theorem ok_buy {l : Int} {r : xR} (h : Vr r) : Ok r (buyF l r).2 := by
  unfold buyF
  split
  · exact Ok.no
  · split
    · exact Ok.no
    · have g := h.1.1
      exact Ok.so ⟨Vr.set0 (Vr.set0 h (by omega)) (by omega), (Tl.rf.up (by decide)).up (by decide)⟩
theorem ok_weather {l : Int} {r : xR} (h : Vr r) : Ok r (weatherF l r).2 := by
  unfold weatherF
  split
  · exact Ok.no
  · split
    · exact Ok.no
    · exact Ok.so ⟨Vr.set0 h (by omega), Tl.rf.up (by decide)⟩
theorem ok_price {l : Int} {r : xR} (h : Vr r) : Ok r (priceF l r).2 := by
  unfold priceF
  split
  · exact Ok.no
  · split
    · exact Ok.no
    · exact Ok.so ⟨Vr.set0 h (by omega), Tl.rf.up (by decide)⟩
theorem ok_addSet {x0 x1 x2 x3 : Int} {r : xR} (h : Vr r) : Ok r (addSetF x0 x1 x2 x3 r).2 := by
  have n6 := h.1.n6
  unfold addSetF
  split
  · exact Ok.no
  · split
    · exact Ok.no
    · exact Ok.so ⟨Vr.addSet h (by omega) (by omega) (by omega) (by omega) (by omega), Tl.addSet (by omega)⟩
theorem ok_addSite {x0 x1 x2 x3 : Int} {r : xR} (h : Vr r) : Ok r (addSiteF x0 x1 x2 x3 r).2 := by
  have n7 := h.1.n7
  unfold addSiteF
  split
  · exact Ok.no
  · split
    · exact Ok.no
    · exact Ok.so ⟨Vr.addSite h (by omega) (by omega) (by omega) (by omega) (by omega), Tl.addSite (by omega)⟩
theorem ok_fill {m : Int} {r : xR} (h : Vr r) : Ok r (fillF m r).2 := by
  have n6 := h.1.n6
  unfold fillF
  split
  · exact Ok.no
  · split
    · exact Ok.no
    · split
      · exact Ok.no
      · rename_i h1 h2 h3
        have hl : litF r m.toNat ≤ fS r m.toNat 1 - fS r m.toNat 4 ∧ litF r m.toNat ≤ r 3 := by
          unfold litF
          split <;> omega
        exact Ok.so ⟨Vr.fill h (by omega) (by omega) (by omega), Tl.fill (by omega)⟩
theorem ok_bring {m s : Int} {r : xR} (h : Vr r) : Ok r (bringF m s r).2 := by
  have n6 := h.1.n6
  have n7 := h.1.n7
  unfold bringF
  split
  · exact Ok.no
  · split
    · exact Ok.no
    · exact Ok.so ⟨Vr.come h (by omega) (by omega), Tl.come (by omega) (by omega)⟩
theorem ok_take {s : Int} {r : xR} (h : Vr r) : Ok r (takeF s r).2 := by
  have n6 := h.1.n6
  have n7 := h.1.n7
  unfold takeF
  split
  · exact Ok.no
  · split
    · exact Ok.no
    · rename_i h1 h2
      have hs : s.toNat < nC r := by omega
      have v4 := (h.1.2.2 s.toNat hs).2.2.2.2.1
      have h4 : 0 < fC r s.toNat 4 := by omega
      have hm := (hasN_lt h.1 hs h4).1
      exact Ok.so ⟨Vr.back h hs h4, Tl.back (by omega) (by omega)⟩
theorem ok_pass {n : Int} {r : xR} (h : Vr r) : Ok r (passF n r).2 := by
  unfold passF
  split
  · exact Ok.no
  · split
    · exact Ok.no
    · exact Ok.so ⟨h.hours n.toNat (by omega), Tl.hours h n.toNat (by omega)⟩
theorem ok_giveL : ∀ (L : List Nat) (z : Int × xR), Vr z.2 → (∀ s ∈ L, s < nC z.2) → Vr (giveL L z).2 ∧ Tl z.2 (giveL L z).2
  | [], z, h, _ => ⟨h, Tl.rf⟩
  | s :: L, z, h, hL => by
    rw [giveL_s]
    have hs := hL s List.mem_cons_self
    split
    · rename_i hc
      obtain ⟨u, hu, huS, -⟩ := yardF_get hc.2
      have n6 := h.1.n6
      have n7 := h.1.n7
      have e : (yardF z.2 s (nS z.2)).toNat = u := by
        rw [hu]
        exact Int.toNat_natCast u
      rw [e]
      have ih := ok_giveL L (z.1 + 1, comeR z.2 u s) (h.come huS hs) (fun x hx => by
        show x < nC (comeR z.2 u s)
        rw [nC_of (r := z.2) (comeR_0 (by decide))]
        exact hL x (List.mem_cons_of_mem _ hx))
      exact ⟨ih.1, (Tl.come (by omega) (by omega)).trans ih.2⟩
    · exact ok_giveL L z h (fun x hx => hL x (List.mem_cons_of_mem _ hx))
theorem ok_give {r : xR} (h : Vr r) : Ok r (giveF r).2 := by
  unfold giveF
  split
  · exact Ok.so (ok_giveL (needL r) (0, r) h (fun s hs => (sortK_mem.mp hs).1))
  · exact Ok.no
theorem ok_swapL {r : xR} (h : Vr r) : ∀ L : List Nat, (∀ s ∈ L, s < nC r) → Ok r (swapL r L).2
  | [], _ => Ok.no
  | s :: L, hL => by
    rw [swapL_s]
    have hs := hL s List.mem_cons_self
    split
    · rename_i hc
      obtain ⟨w, hw, hwi, hw4, hwy⟩ := partF_get hc.2
      obtain ⟨v, hv, hvi, -⟩ := yardF_get hwy
      have hk := (hasN_lt h.1 hwi hw4).1
      have n6 := h.1.n6
      have n7 := h.1.n7
      have e : (partF r s (nC r)).toNat = w := by
        rw [hw]
        exact Int.toNat_natCast w
      have e2 : (yardF r w (nS r)).toNat = v := by
        rw [hv]
        exact Int.toNat_natCast v
      refine Ok.so ?_
      rw [e]
      unfold swapR
      rw [e2]
      have eS : nS (comeR r v w) = nS r := nS_of (comeR_0 (by decide))
      have eC : nC (comeR r v w) = nC r := nC_of (comeR_0 (by decide))
      exact ⟨(h.come hvi hwi).come (by rw [eS]; exact hk) (by rw [eC]; exact hs), (Tl.come (by omega) (by omega)).trans (Tl.come (by omega) (by omega))⟩
    · exact ok_swapL h L (fun x hx => hL x (List.mem_cons_of_mem _ hx))
theorem ok_swap {r : xR} (h : Vr r) : Ok r (swapL r (needL r)).2 := ok_swapL h (needL r) (fun s hs => (sortK_mem.mp hs).1)
theorem ok_fuelL (tr : Int) : ∀ (L : List Nat) (z : Int × xR), Vr z.2 → tr - z.1 ≤ z.2 3 → (∀ s ∈ L, s < nC z.2 ∧ 0 < fC z.2 s 4) → Vr (fuelL tr L z).2 ∧ Tl z.2 (fuelL tr L z).2
  | [], z, h, _, _ => ⟨h, Tl.rf⟩
  | s :: L, z, h, h3, hL => by
    rw [fuelL_s]
    obtain ⟨hs, h4⟩ := hL s List.mem_cons_self
    have hm := (hasN_lt h.1 hs h4).1
    have n6 := h.1.n6
    split
    · rename_i hc
      have hl := lessI_lim (fS z.2 (hasN z.2 s) 1 - fS z.2 (hasN z.2 s) 4) (tr - z.1)
      generalize lessI (fS z.2 (hasN z.2 s) 1 - fS z.2 (hasN z.2 s) 4) (tr - z.1) = x at hc hl ⊢
      have hV := h.fill (x := x) hm (by omega) (by omega)
      obtain ⟨a1, a2, a3⟩ := fillR_n (r := z.2) (x := x) (u := hasN z.2 s)
      have f : ∀ i k, fC (fillR z.2 (hasN z.2 s) x) i k = fC z.2 i k := fun i k => by
        unfold fillR
        rw [fC_fu0 (by decide), fC_fuS (by omega) (by decide)]
      have ih := ok_fuelL tr L (z.1 + x, fillR z.2 (hasN z.2 s) x) hV (by
        show tr - (z.1 + x) ≤ fillR z.2 (hasN z.2 s) x 3
        omega) (fun y hy => by
        show y < nC (fillR z.2 (hasN z.2 s) x) ∧ 0 < fC (fillR z.2 (hasN z.2 s) x) y 4
        rw [a2, f]
        exact hL y (List.mem_cons_of_mem _ hy))
      exact ⟨ih.1, (Tl.fill (by omega)).trans ih.2⟩
    · exact ok_fuelL tr L z h h3 (fun x hx => hL x (List.mem_cons_of_mem _ hx))
theorem ok_fuel {r : xR} (h : Vr r) : Ok r (fuelF r).2 := by
  unfold fuelF
  split
  · refine Ok.so (ok_fuelL (lessI 300 (r 3)) (thirL r) (0, r) h ?_ (fun s hs => ⟨(sortK_mem.mp hs).1, hasB_iff.mp (sortK_mem.mp hs).2⟩))
    show lessI 300 (r 3) - 0 ≤ r 3
    have := lessI_lim 300 (r 3)
    omega
  · exact Ok.no
theorem ok_addL : ∀ (L : List (Int × Int × Int × Int)) (r : xR), Vr r → nC r + L.length ≤ 12 → (∀ s ∈ L, SB s ∧ hrsB r s = true) → Vr (addL L r) ∧ Tl r (addL L r)
  | [], r, h, _, _ => ⟨h, Tl.rf⟩
  | s :: L, r, h, hn, hL => by
    rw [addL_s]
    rw [List.length_cons] at hn
    obtain ⟨hb, hh⟩ := hL s List.mem_cons_self
    have hh := hrsB_iff.mp hh
    unfold SB at hb
    obtain ⟨a1, a2, a3⟩ := addSiteR_n (x0 := s.1) (x1 := s.2.1) (x2 := s.2.2.1) (x3 := s.2.2.2) h.1.n7.1
    have ih := ok_addL L (addSiteR r s.1 s.2.1 s.2.2.1 s.2.2.2) (h.addSite (by omega) hb.1 hb.2.1 (by omega) (by omega)) (by omega) (fun x hx => by
      obtain ⟨g1, g2⟩ := hL x (List.mem_cons_of_mem _ hx)
      refine ⟨g1, ?_⟩
      unfold hrsB at g2 ⊢
      rw [show addSiteR r s.1 s.2.1 s.2.2.1 s.2.2.2 0 = r 0 from addSiteR_0 (by decide) (by decide)]
      exact g2)
    exact ⟨ih.1, (Tl.addSite (by omega)).trans ih.2⟩
theorem ok_read {t : List Int} {r : xR} (h : Vr r) : Ok r (readF t r).2 := by
  have n7 := h.1.n7
  unfold readF
  split
  · exact Ok.no
  · rename_i L z hp
    unfold readG
    split
    · exact Ok.no
    · rename_i h1
      split
      · exact Ok.no
      · rename_i h2
        have hall := List.all_eq_true.mp (Decidable.of_not_not h1)
        exact Ok.so (ok_addL L r h (by omega) (fun s hs => ⟨parF_ok hp s hs, hall s hs⟩))
/-! all that is kept is in order -/
def Iv (z0 r : xR) (h : List xR) (sn : Option xR) : Prop := (Vr r ∧ Tl z0 r) ∧ (∀ q ∈ h, Vr q ∧ Tl z0 q) ∧ ∀ q, sn = some q → Vr q ∧ Tl z0 q
theorem Iv.act {z0 r : xR} {h : List xR} {sn : Option xR} {o : Option xR} (hI : Iv z0 r h sn) (ho : Ok r o) : Iv z0 (actR o r) (actH o r h) sn := by
  cases o with
  | none => exact hI
  | some q =>
    obtain ⟨h1, h2⟩ := ho q rfl
    refine ⟨⟨h1, hI.1.2.trans h2⟩, fun x hx => ?_, hI.2.2⟩
    rcases List.mem_cons.mp (List.mem_of_mem_take (show x ∈ (r :: h).take 5 from hx)) with e | e
    · rw [e]
      exact hI.1
    · exact hI.2.1 x e
theorem Iv.cb {z0 r : xR} {h : List xR} {sn : Option xR} (hI : Iv z0 r h sn) : CB h sn := ⟨fun q hq => (hI.2.1 q hq).1.1.bn, fun q hq => (hI.2.2 q hq).1.1.bn⟩
