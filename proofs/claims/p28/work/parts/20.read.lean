theorem numL_fwd (t : List Int) : ∀ (k : Nat) (v : Int) (p : Nat), p ≤ (numL t k v p).2
  | 0, v, p => Nat.le_refl p
  | k + 1, v, p => by
    rw [numL_s]
    split
    · have := numL_fwd t k (10 * v + (t.getD p 0 - 48)) (p + 1)
      omega
    · exact Nat.le_refl p
theorem numF_some {t : List Int} {lo : Int} {dg p : Nat} (h : (numF t lo dg p).1 ≠ -1) : p + 1 ≤ (numF t lo dg p).2 ∧ (numF t lo dg p).2 ≤ t.length := by
  unfold numF at h ⊢
  by_cases hd : isDg t p lo
  · rw [if_pos hd] at h ⊢
    exact ⟨numL_fwd t _ _ _, numL_lim t _ _ _ hd.1⟩
  · rw [if_neg hd] at h
    exact absurd rfl h
theorem siteF_pos {t : List Int} {u z : Nat} {s : Int × Int × Int × Int} (h : siteF t u = (some s, z)) : u + 7 ≤ z ∧ z ≤ t.length := by
  unfold siteF at h
  repeat' split at h
  all_goals first
    | (simp at h; done)
    | (rename_i a1 a2 a3 a4 a5 a6 a7
       have g1 := numF_some a1
       have g3 := numF_some a3
       have g5 := numF_some a5
       have g7 := numF_some a7
       have e := congrArg Prod.snd h
       dsimp only at e
       omega)
theorem parL_s (t : List Int) (n p : Nat) (L : List (Int × Int × Int × Int)) : parL t (n + 1) p L = if p < t.length then (if t.getD p 0 = 59 then (match siteF t (p + 1) with
    | (none, q) => (none, q)
    | (some s, q) => parL t n q (L ++ [s])) else (none, p)) else (some L, p) := rfl
/-- the lines of the text at a -/
def LnS (M : xM) (a : Nat) (L : List (Int × Int × Int × Int)) : Prop := ∀ j s, L[j]? = some s → Ln M a j s
theorem LnS.one {M : xM} {a : Nat} {s : Int × Int × Int × Int} (h : Ln M a 0 s) : LnS M a [s] := by
  intro j s' hj
  cases j with
  | zero => cases hj; exact h
  | succ j => simp at hj
theorem LnS.add {M M' : xM} {a : Nat} {L : List (Int × Int × Int × Int)} {s : Int × Int × Int × Int} (h : LnS M a L) (hs : Ln M' a L.length s) (ho : ∀ x, x ≠ a → x ≠ a + 3 + L.length → M' x = M x) : LnS M' a (L ++ [s]) := by
  intro j s' hj
  by_cases e : j < L.length
  · rw [List.getElem?_append_left e] at hj
    have g := h j s' hj
    unfold Ln at g ⊢
    rw [ho _ (by omega) (by omega)]
    exact g
  · rw [List.getElem?_append_right (by omega)] at hj
    have e2 : j - L.length = 0 := by
      have := (List.getElem?_eq_some_iff.mp hj).1
      simp at this
      omega
    rw [e2] at hj
    cases hj
    rw [show j = L.length by omega]
    exact hs
set_option maxHeartbeats 1000000 in
set_option maxRecDepth 100000 in
theorem c_X3_read (l : Launch) (D : xD) (Bs sz : Nat) (kd : xKd) (rf : xRf) (M : xM) (a : Nat) (t : List Int) (hT : ShT kd rf a) (ht : TxO M a t) : CtI l D Bs yX3_read cX3_read 3 (some .boolean) 3 [.ref a] sz kd rf M (fun q M' => (∃ z, parF t = (none, z) ∧ q = 0 ∧ M' a 4 = (z : Int) ∧ (M' a 1 = M a 1 ∧ ∀ x, x ≠ a → (x < a + 3 ∨ a + 11 ≤ x) → M' x = M x)) ∨ ∃ L z, parF t = (some L, z) ∧ q = 1 ∧ (M' a 3 = (L.length : Int) ∧ L.length ≤ 8 ∧ LnS M' a L) ∧ (M' a 1 = M a 1 ∧ ∀ x, x ≠ a → (x < a + 3 ∨ a + 11 ≤ x) → M' x = M x)) := by
  refine Ctr.of (yv_X3_read.1.2.2.2.2) (List.forall_mem_cons.mpr ⟨rfl, fun _ h => absurd h List.not_mem_nil⟩) (Nat.le_of_ble_eq_true rfl) [some (.ref a), none, none] rfl ?_
  intro p e s m args below meth c X hin
  obtain ⟨⟨t1, t2⟩, t3⟩ := id ht
  have L17z : ∀ (i : Nat) (M1 : xM), i ≤ 100 → ((∃ z, parF t = (none, z) ∧ (0 : Int) = 0 ∧ M1 a 4 = (z : Int) ∧ (M1 a 1 = M a 1 ∧ ∀ x, x ≠ a → (x < a + 3 ∨ a + 11 ≤ x) → M1 x = M x)) ∨ ∃ L z, parF t = (some L, z) ∧ (0 : Int) = 1 ∧ (M1 a 3 = (L.length : Int) ∧ L.length ≤ 8 ∧ LnS M1 a L) ∧ (M1 a 1 = M a 1 ∧ ∀ x, x ≠ a → (x < a + 3 ∨ a + 11 ≤ x) → M1 x = M x)) → G p l e (rmd 3) s m args below meth c D Bs 3 0 0 (MQ below (xQ D Bs (pI sz kd rf (fun q M' => (∃ z, parF t = (none, z) ∧ q = 0 ∧ M' a 4 = (z : Int) ∧ (M' a 1 = M a 1 ∧ ∀ x, x ≠ a → (x < a + 3 ∨ a + 11 ≤ x) → M' x = M x)) ∨ ∃ L z, parF t = (some L, z) ∧ q = 1 ∧ (M' a 3 = (L.length : Int) ∧ L.length ≤ 8 ∧ LnS M' a L) ∧ (M' a 1 = M a 1 ∧ ∀ x, x ≠ a → (x < a + 3 ∨ a + 11 ≤ x) → M' x = M x)))) args s 0 0 (fun q => Bs ≤ q)) sz kd rf (M1) 17 [some (.ref a), some (vi 0), some (vi (i : Int))] [] := by
    intro i M1 hi hP0
    refine G.iload_n X 18 dX3_read_17 rfl rfl ?_
    refine G.bipush X 20 dX3_read_18 rfl (by decide) ?_
    refine G.icmp_ge X 66 23 dX3_read_20 (by decide) rfl (by omega) (by omega) (fun hc20 => ?_) (fun hc20 => ?_)
    · refine G.iload_n X 67 dX3_read_66 rfl rfl ?_
      refine G.zret X dX3_read_67 ⟨Nat.le_refl _, Nat.le_refl _⟩ (Or.inl rfl) ⟨rfl, rfl, rfl, _, rfl, ?_⟩
      exact hP0
    · refine G.iload_n X 24 dX3_read_23 rfl rfl ?_
      refine G.if_eq X 66 27 dX3_read_24 (by decide) rfl (by omega) (fun hc24 => ?_) (fun hc24 => ?_)
      · refine G.iload_n X 67 dX3_read_66 rfl rfl ?_
        refine G.zret X dX3_read_67 ⟨Nat.le_refl _, Nat.le_refl _⟩ (Or.inl rfl) ⟨rfl, rfl, rfl, _, rfl, ?_⟩
        exact hP0
      · exact absurd hc24 (by decide)
  have L17 : ∀ (k : Nat) (i pos : Nat) (L : List (Int × Int × Int × Int)) (M1 : xM), i + k = 8 → L.length = i → 1 ≤ i → parL t k pos L = parF t → pos ≤ t.length → M1 a 4 = (pos : Int) → M1 a 3 = (L.length : Int) → LnS M1 a L → (M1 a 1 = M a 1 ∧ ∀ x, x ≠ a → (x < a + 3 ∨ a + 11 ≤ x) → M1 x = M x) → G p l e (rmd 3) s m args below meth c D Bs 3 0 0 (MQ below (xQ D Bs (pI sz kd rf (fun q M' => (∃ z, parF t = (none, z) ∧ q = 0 ∧ M' a 4 = (z : Int) ∧ (M' a 1 = M a 1 ∧ ∀ x, x ≠ a → (x < a + 3 ∨ a + 11 ≤ x) → M' x = M x)) ∨ ∃ L z, parF t = (some L, z) ∧ q = 1 ∧ (M' a 3 = (L.length : Int) ∧ L.length ≤ 8 ∧ LnS M' a L) ∧ (M' a 1 = M a 1 ∧ ∀ x, x ≠ a → (x < a + 3 ∨ a + 11 ≤ x) → M' x = M x)))) args s 0 0 (fun q => Bs ≤ q)) sz kd rf (M1) 17 [some (.ref a), some (vi 1), some (vi (i : Int))] [] := by
    intro k
    induction k with
    | zero =>
      intro i pos L M1 hik hLi hi1 hres hpl h4 h3 hln hfr
      have ht1 : TxO M1 a t := ht.off hfr.1 (hfr.2 _ (by omega) (by omega))
      have h1 : M1 a 1 = (t.length : Int) := hfr.1.trans t1
      refine G.iload_n X 18 dX3_read_17 rfl rfl ?_
      refine G.bipush X 20 dX3_read_18 rfl (by decide) ?_
      refine G.icmp_ge X 66 23 dX3_read_20 (by decide) rfl (by omega) (by omega) (fun hc20 => ?_) (fun hc20 => ?_)
      · refine G.iload_n X 67 dX3_read_66 rfl rfl ?_
        refine G.zret X dX3_read_67 ⟨Nat.le_refl _, Nat.le_refl _⟩ (Or.inr rfl) ⟨rfl, rfl, rfl, _, rfl, ?_⟩
        exact Or.inr ⟨L, pos, hres.symm, rfl, ⟨h3, by omega, hln⟩, hfr⟩
      · exfalso; omega
    | succ k ih =>
      intro i pos L M1 hik hLi hi1 hres hpl h4 h3 hln hfr
      have ht1 : TxO M1 a t := ht.off hfr.1 (hfr.2 _ (by omega) (by omega))
      have h1 : M1 a 1 = (t.length : Int) := hfr.1.trans t1
      refine G.iload_n X 18 dX3_read_17 rfl rfl ?_
      refine G.bipush X 20 dX3_read_18 rfl (by decide) ?_
      refine G.icmp_ge X 66 23 dX3_read_20 (by decide) rfl (by omega) (by omega) (fun hc20 => ?_) (fun hc20 => ?_)
      · exfalso; omega
      · refine G.iload_n X 24 dX3_read_23 rfl rfl ?_
        refine G.if_eq X 66 27 dX3_read_24 (by decide) rfl (by omega) (fun hc24 => ?_) (fun hc24 => ?_)
        · exact absurd hc24 (by decide)
        · refine G.aload_n X 28 dX3_read_27 rfl rfl ?_
          refine G.getf (v := vi ((pos : Int))) X fl_X3_26 31 dX3_read_28 rfl (hT).1 ((xV_int ((hT).2.2.2.1 4 (by decide))).trans (congrArg vi ?_)) ?_
          · exact h4
          refine G.aload_n X 32 dX3_read_31 rfl rfl ?_
          refine G.getf (v := vi ((t.length : Int))) X fl_X3_22 35 dX3_read_32 rfl (hT).1 ((xV_int ((hT).2.2.2.1 1 (by decide))).trans (congrArg vi ?_)) ?_
          · exact h1
          refine G.icmp_ge X 66 38 dX3_read_35 (by decide) rfl (by omega) (by omega) (fun hc35 => ?_) (fun hc35 => ?_)
          · refine G.iload_n X 67 dX3_read_66 rfl rfl ?_
            refine G.zret X dX3_read_67 ⟨Nat.le_refl _, Nat.le_refl _⟩ (Or.inr rfl) ⟨rfl, rfl, rfl, _, rfl, ?_⟩
            rw [parL_s, if_neg (by omega)] at hres
            exact Or.inr ⟨L, pos, hres.symm, rfl, ⟨h3, by omega, hln⟩, hfr⟩
          · refine G.aload_n X 39 dX3_read_38 rfl rfl ?_
            refine G.bipush X 41 dX3_read_39 rfl (by decide) ?_
            refine G.vI1 (d := 0) X ml_X3_36 yv_X3_skip 44 dX3_read_41 rfl (c_X3_skip l D Bs _ kd rf _ a pos 59 t (hT) ht1 h4 (by decide) (by omega)) ⟨_, _, (hT).1, rfl, rfl⟩ (by decide) ⟨Nat.zero_le _, Nat.zero_le _⟩ (Nat.le_of_ble_eq_true rfl) (fun r41 M41 h41 => ?_)
            rcases h41 with ⟨hk41, hr41, hm41⟩ | ⟨hk41, hr41, hm41⟩
            · subst hr41
              subst hm41
              refine G.if_eq X 58 47 dX3_read_44 (by decide) rfl (by omega) (fun hc44 => ?_) (fun hc44 => ?_)
              · exact absurd hc44 (by decide)
              · refine G.aload_n X 48 dX3_read_47 rfl rfl ?_
                refine G.vI0 (d := 2) X ml_X3_32 yv_X3_readSite 51 dX3_read_48 rfl (c_X3_readSite l D Bs _ kd rf _ a (pos + 1) L.length t (hT) (ht1.mv (by decide)) (by rw [mu_same]; omega) (by omega) (by rw [mu_ne (Or.inr (by decide))]; exact h3) (by omega)) ⟨_, _, (hT).1, rfl, rfl⟩ (by decide) ⟨Nat.zero_le _, Nat.zero_le _⟩ (Nat.le_of_ble_eq_true rfl) (fun r48 M48 h48 => ?_)
                rcases h48 with ⟨z48, hs48, hr48, hm48⟩ | ⟨s48, z48, hs48, hr48, ⟨m448, m348, m148⟩, ml48, mo48⟩
                · subst hr48
                  subst hm48
                  refine G.if_eq X 58 54 dX3_read_51 (by decide) rfl (by omega) (fun hc51 => ?_) (fun hc51 => ?_)
                  · refine G.iconst X 59 dX3_read_58 rfl ?_
                    refine G.istore_n (ls' := [_, _, _]) X 60 dX3_read_59 rfl (by decide) rfl ?_
                    refine G.iinc (ls' := [_, _, _]) X 63 dX3_read_60 rfl rfl (by decide) rfl ?_
                    refine G.goto X 17 dX3_read_63 (by decide) ?_
                    refine L17z (i + 1) _ (by omega) (Or.inl ?_)
                    rw [← hres, parL_s, if_pos (show pos < t.length by omega)]
                    first
                      | (refine ⟨z48, ?_, rfl, mu_same, (mu_ne (Or.inr (by decide))).trans ((mu_ne (Or.inr (by decide))).trans hfr.1), fun x x1 x2 => (ms_ne x1).trans ((ms_ne x1).trans (hfr.2 x x1 x2))⟩
                         rw [if_pos hk41.2, hs48])
                      | exact ⟨pos, if_neg (fun q => hk41 ⟨by omega, q⟩), rfl, h4, hfr⟩
                  · exact absurd hc51 (by decide)
                · subst hr48
                  refine G.if_eq X 58 54 dX3_read_51 (by decide) rfl (by omega) (fun hc51 => ?_) (fun hc51 => ?_)
                  · exact absurd hc51 (by decide)
                  · refine G.iconst X 55 dX3_read_54 rfl ?_
                    refine G.goto X 59 dX3_read_55 (by decide) ?_
                    refine G.istore_n (ls' := [_, _, _]) X 60 dX3_read_59 rfl (by decide) rfl ?_
                    refine G.iinc (ls' := [_, _, _]) X 63 dX3_read_60 rfl rfl (by decide) rfl ?_
                    refine G.goto X 17 dX3_read_63 (by decide) ?_
                    rw [parL_s, if_pos (show pos < t.length by omega), if_pos hk41.2, hs48] at hres
                    refine ih (i + 1) z48 (L ++ [s48]) M48 (by omega) (by simp; omega) (by omega) hres (siteF_pos hs48).2 m448 ?_ ?_ ?_
                    · rw [m348]; simp
                    · exact hln.add (ml48) (fun x x1 x2 => (mo48 x x1 x2).trans (ms_ne x1))
                    · exact ⟨m148.trans ((mu_ne (Or.inr (by decide))).trans hfr.1), fun x x1 x2 => (mo48 x x1 (by omega)).trans ((ms_ne x1).trans (hfr.2 x x1 x2))⟩
            · subst hr41
              subst hm41
              refine G.if_eq X 58 47 dX3_read_44 (by decide) rfl (by omega) (fun hc44 => ?_) (fun hc44 => ?_)
              · refine G.iconst X 59 dX3_read_58 rfl ?_
                refine G.istore_n (ls' := [_, _, _]) X 60 dX3_read_59 rfl (by decide) rfl ?_
                refine G.iinc (ls' := [_, _, _]) X 63 dX3_read_60 rfl rfl (by decide) rfl ?_
                refine G.goto X 17 dX3_read_63 (by decide) ?_
                refine L17z (i + 1) _ (by omega) (Or.inl ?_)
                rw [← hres, parL_s, if_pos (show pos < t.length by omega)]
                first
                  | (refine ⟨z48, ?_, rfl, mu_same, (mu_ne (Or.inr (by decide))).trans ((mu_ne (Or.inr (by decide))).trans hfr.1), fun x x1 x2 => (ms_ne x1).trans ((ms_ne x1).trans (hfr.2 x x1 x2))⟩
                     rw [if_pos hk41.2, hs48])
                  | exact ⟨pos, if_neg (fun q => hk41 ⟨by omega, q⟩), rfl, h4, hfr⟩
              · exact absurd hc44 (by decide)
  refine G.aload_n X 1 dX3_read_0 rfl rfl ?_
  refine G.iconst X 2 dX3_read_1 rfl ?_
  refine G.putI X fl_X3_26 fi_3_4 rfl 5 dX3_read_2 rfl (hT).1 ((hT).2.2.2.1 4 (by decide)) ?_
  refine G.aload_n X 6 dX3_read_5 rfl rfl ?_
  refine G.iconst X 7 dX3_read_6 rfl ?_
  refine G.putI X fl_X3_29 fi_3_3 rfl 10 dX3_read_7 rfl (hT).1 ((hT).2.2.2.1 3 (by decide)) ?_
  refine G.aload_n X 11 dX3_read_10 rfl rfl ?_
  refine G.vI0 (d := 2) X ml_X3_32 yv_X3_readSite 14 dX3_read_11 rfl (c_X3_readSite l D Bs _ kd rf _ a 0 0 t (hT) ((ht.mv (by decide)).mv (by decide)) (by rw [mu_ne (Or.inr (by decide)), mu_same]; rfl) (by omega) mu_same (by decide)) ⟨_, _, (hT).1, rfl, rfl⟩ (by decide) ⟨Nat.zero_le _, Nat.zero_le _⟩ (Nat.le_of_ble_eq_true rfl) (fun r11 M11 h11 => ?_)
  rcases h11 with ⟨z11, hs11, hr11, hm11⟩ | ⟨s11, z11, hs11, hr11, ⟨m411, m311, m111⟩, ml11, mo11⟩
  · subst hr11
    subst hm11
    refine G.istore_n (ls' := [_, _, _]) X 15 dX3_read_14 rfl (by decide) rfl ?_
    refine G.iconst X 16 dX3_read_15 rfl ?_
    refine G.istore_n (ls' := [_, _, _]) X 17 dX3_read_16 rfl (by decide) rfl ?_
    exact L17z 1 _ (by omega) (Or.inl ⟨z11, by unfold parF; rw [hs11], rfl, mu_same, (mu_ne (Or.inr (by decide))).trans ((mu_ne (Or.inr (by decide))).trans (mu_ne (Or.inr (by decide)))), fun x x1 x2 => (ms_ne x1).trans ((ms_ne x1).trans (ms_ne x1))⟩)
  · subst hr11
    refine G.istore_n (ls' := [_, _, _]) X 15 dX3_read_14 rfl (by decide) rfl ?_
    refine G.iconst X 16 dX3_read_15 rfl ?_
    refine G.istore_n (ls' := [_, _, _]) X 17 dX3_read_16 rfl (by decide) rfl ?_
    refine L17 7 1 z11 [s11] M11 rfl rfl (by omega) (by unfold parF; rw [hs11]) (siteF_pos hs11).2 m411 (by rw [m311]; rfl) (LnS.one ml11) ⟨m111.trans ((mu_ne (Or.inr (by decide))).trans (mu_ne (Or.inr (by decide)))), fun x x1 x2 => (mo11 x x1 (by omega)).trans ((ms_ne x1).trans (ms_ne x1))⟩
