/-- what reading changes: the place, the count, the cells of the sites read from number f on -/
def RdF (M M' : xM) (y f : Nat) : Prop := (∀ a, a ≠ y → a ≠ y + 7 → M' a = M a) ∧ (∀ k, k ≠ 9 → k ≠ 10 → M' y k = M y k) ∧ ∀ q, q < 4 * f → M' (y + 7) q = M (y + 7) q
theorem RdF.rf {M : xM} {y f : Nat} : RdF M M y f := ⟨fun _ _ _ => rfl, fun _ _ _ => rfl, fun _ _ => rfl⟩
theorem RdF.p9 {M M1 : xM} {y f : Nat} {x : Int} (h : RdF M M1 y f) : RdF M (mu M1 y 9 x) y f := ⟨fun a h1 h2 => (ms_ne h1).trans (h.1 a h1 h2), fun k h9 h10 => (mu_ne (Or.inr h9)).trans (h.2.1 k h9 h10), fun q hq => (mu_ne (Or.inl (by omega))).trans (h.2.2 q hq)⟩
theorem RdF.p10 {M M1 : xM} {y f : Nat} {x : Int} (h : RdF M M1 y f) : RdF M (mu M1 y 10 x) y f := ⟨fun a h1 h2 => (ms_ne h1).trans (h.1 a h1 h2), fun k h9 h10 => (mu_ne (Or.inr h10)).trans (h.2.1 k h9 h10), fun q hq => (mu_ne (Or.inl (by omega))).trans (h.2.2 q hq)⟩
theorem RdF.st {M M1 : xM} {y f i : Nat} {x : Int} (h : RdF M M1 y f) (hi : 4 * f ≤ i) : RdF M (mu M1 (y + 7) i x) y f := ⟨fun a h1 h2 => (ms_ne h2).trans (h.1 a h1 h2), fun k h9 h10 => (mu_ne (Or.inl (by omega))).trans (h.2.1 k h9 h10), fun q hq => (mu_ne (Or.inr (by omega))).trans (h.2.2 q hq)⟩
theorem RdF.tx {M M1 : xM} {y f : Nat} {t : List Int} (h : RdF M M1 y f) (ht : TxM M y t) : TxM M1 y t := by
  refine ⟨⟨(h.2.1 7 (by decide) (by decide)).trans ht.1.1, ht.1.2⟩, fun j hj => ?_⟩
  rw [h.1 (y + 6) (by omega) (by omega)]
  exact ht.2 j hj
theorem RdF.trans0 {M M1 M2 : xM} {y f : Nat} (h : RdF M M1 y 0) (h2 : RdF M1 M2 y f) : RdF M M2 y 0 := ⟨fun a a1 a2 => (h2.1 a a1 a2).trans (h.1 a a1 a2), fun k h9 h10 => (h2.2.1 k h9 h10).trans (h.2.1 k h9 h10), fun q hq => absurd hq (Nat.not_lt_zero q)⟩
def RqS (M : xM) (y f : Nat) (s : (Int × Int × Int × Int)) : Prop := M (y + 7) (4 * f + 0) = s.1 ∧ M (y + 7) (4 * f + 1) = s.2.1 ∧ M (y + 7) (4 * f + 2) = s.2.2.1 ∧ M (y + 7) (4 * f + 3) = s.2.2.2
def RqL (M : xM) (y : Nat) (L : List (Int × Int × Int × Int)) : Prop := ∀ j s, L[j]? = some s → RqS M y j s
theorem RqL.mv {M M1 : xM} {y : Nat} {L : List (Int × Int × Int × Int)} (h : RqL M y L) (h1 : ∀ q, q < 4 * L.length → M1 (y + 7) q = M (y + 7) q) : RqL M1 y L := fun j s hj => by
  have hl := (List.getElem?_eq_some_iff.mp hj).1
  have g := h j s hj
  unfold RqS at g ⊢
  rw [h1 _ (by omega), h1 _ (by omega), h1 _ (by omega), h1 _ (by omega)]
  exact g
theorem RqL.add {M : xM} {y : Nat} {L : List (Int × Int × Int × Int)} {s : (Int × Int × Int × Int)} (h : RqL M y L) (hs : RqS M y L.length s) : RqL M y (L ++ [s]) := fun j s' hj => by
  by_cases e : j < L.length
  · rw [List.getElem?_append_left e] at hj
    exact h j s' hj
  · rw [List.getElem?_append_right (by omega)] at hj
    have e2 : j - L.length = 0 := by
      have := (List.getElem?_eq_some_iff.mp hj).1
      simp at this
      omega
    rw [e2] at hj
    cases hj
    rw [show j = L.length by omega]
    exact hs
set_option maxHeartbeats 1000000 in
set_option maxRecDepth 100000 in
theorem c_X6_readsSite (l : Launch) (D : xD) (Bs sz : Nat) (kd : xKd) (rf : xRf) (M : xM) (y u f : Nat) (t : List Int) (hY : ShY kd rf y) (ht : TxM M y t) (hp : M y 9 = (u : Int)) (hpr : u ≤ 61) (hf : M y 10 = (f : Int)) (hf8 : f < 8) : CtI l D Bs yX6_readsSite cX6_readsSite 3 (some .boolean) 2 [.ref y] sz kd rf M (fun q M' => (∃ z, siteF t u = (none, z) ∧ q = 0 ∧ M' y 9 = (z : Int) ∧ RdF M M' y f) ∨ ∃ s z, siteF t u = (some s, z) ∧ q = bi (z = t.length ∨ t.getD z 0 = 59) ∧ (M' y 9 = (z : Int) ∧ M' y 10 = (f : Int) + 1) ∧ RqS M' y f s ∧ RdF M M' y f) := by
  refine Ctr.of (yv_X6_readsSite.1.2.2.2.2) (List.forall_mem_cons.mpr ⟨rfl, fun _ h => absurd h List.not_mem_nil⟩) (Nat.le_of_ble_eq_true rfl) [some (.ref y), none, none] rfl ?_
  intro p e s m args below meth c X hin
  have L9_4 : ∀ (M1 : xM), ¬ (numF t 49 1 u).1 = -1 → sg t (numF t 49 1 u).2 42 → ¬ (numF t 49 2 ((numF t 49 1 u).2 + 1)).1 = -1 → sg t (numF t 49 2 ((numF t 49 1 u).2 + 1)).2 64 → ¬ (numF t 48 3 ((numF t 49 2 ((numF t 49 1 u).2 + 1)).2 + 1)).1 = -1 → sg t (numF t 48 3 ((numF t 49 2 ((numF t 49 1 u).2 + 1)).2 + 1)).2 45 → ¬ (numF t 48 3 ((numF t 48 3 ((numF t 49 2 ((numF t 49 1 u).2 + 1)).2 + 1)).2 + 1)).1 = -1 → RdF M M1 y f → M1 y 9 = (((numF t 48 3 ((numF t 48 3 ((numF t 49 2 ((numF t 49 1 u).2 + 1)).2 + 1)).2 + 1)).2 : Nat) : Int) → M1 y 10 = (f : Int) → M1 (y + 7) (4 * f + 0) = (numF t 49 1 u).1 → M1 (y + 7) (4 * f + 1) = (numF t 49 2 ((numF t 49 1 u).2 + 1)).1 → M1 (y + 7) (4 * f + 2) = (numF t 48 3 ((numF t 49 2 ((numF t 49 1 u).2 + 1)).2 + 1)).1 → M1 (y + 7) (4 * f + 3) = (numF t 48 3 ((numF t 48 3 ((numF t 49 2 ((numF t 49 1 u).2 + 1)).2 + 1)).2 + 1)).1 → G p l e (rmd 2) s m args below meth c D Bs 3 0 0 (MQ below (xQ D Bs (pI sz kd rf (fun q M' => (∃ z, siteF t u = (none, z) ∧ q = 0 ∧ M' y 9 = (z : Int) ∧ RdF M M' y f) ∨ ∃ s z, siteF t u = (some s, z) ∧ q = bi (z = t.length ∨ t.getD z 0 = 59) ∧ (M' y 9 = (z : Int) ∧ M' y 10 = (f : Int) + 1) ∧ RqS M' y f s ∧ RdF M M' y f))) args s 0 0 (fun q => Bs ≤ q)) sz kd rf (M1) 9 [some (.ref y), some (vi (4 * (f : Int))), some (vi 4)] [] := by
    intro M1 hA hAs hB hBs hC hCs hD hRd hp1 hf1 hv0 hv1 hv2 hv3
    have hT1 : TxM M1 y t := hRd.tx ht
    have htl := ht.1.2
    have hl64 := numF_some hD
    refine G.okd (fun hok => ?_)
    have hch : ∀ j, j < t.length → 0 ≤ t.getD j 0 ∧ t.getD j 0 < 65536 := fun j hj => by
      rw [← hT1.2 j hj]
      exact hok.2 (y + 6) 60 j (ShY.a8 hY).1
    refine G.iload_n X 10 dX6_readsSite_9 rfl rfl ?_
    refine G.iconst X 11 dX6_readsSite_10 rfl ?_
    refine G.icmp_ge X 108 14 dX6_readsSite_11 (by decide) rfl (by omega) (by omega) (fun hc11 => ?_) (fun hc11 => ?_)
    · refine G.aload_n X 109 dX6_readsSite_108 rfl rfl ?_
      refine G.dup X 110 dX6_readsSite_109 rfl rfl ?_
      refine G.getf (v := vi ((f : Int))) X fl_X6_146 113 dX6_readsSite_110 rfl (hY).1 ((xV_int ((hY).2.1 10 (by decide))).trans (congrArg vi ?_)) ?_
      · exact hf1
      refine G.iconst X 114 dX6_readsSite_113 rfl ?_
      refine G.iadd X 115 dX6_readsSite_114 rfl ?_
      refine G.putI X fl_X6_146 fi_6_10 rfl 118 dX6_readsSite_115 rfl (hY).1 ((hY).2.1 10 (by decide)) ?_
      refine G.aload_n X 119 dX6_readsSite_118 rfl rfl ?_
      refine G.getf (v := vi ((((numF t 48 3 ((numF t 48 3 ((numF t 49 2 ((numF t 49 1 u).2 + 1)).2 + 1)).2 + 1)).2) : Int))) X fl_X6_143 122 dX6_readsSite_119 rfl (hY).1 ((xV_int ((hY).2.1 9 (by decide))).trans (congrArg vi ?_)) ?_
      · exact (mu_ne (Or.inr (by decide))).trans hp1
      refine G.aload_n X 123 dX6_readsSite_122 rfl rfl ?_
      refine G.getf (v := vi ((t.length : Int))) X fl_X6_140 126 dX6_readsSite_123 rfl (hY).1 ((xV_int ((hY).2.1 7 (by decide))).trans (congrArg vi ?_)) ?_
      · exact (mu_ne (Or.inr (by decide))).trans hT1.1.1
      refine G.icmp_eq X 143 129 dX6_readsSite_126 (by decide) rfl (by omega) (by omega) (fun hc126 => ?_) (fun hc126 => ?_)
      · refine G.iconst X 144 dX6_readsSite_143 rfl ?_
        refine G.goto X 148 dX6_readsSite_144 (by decide) ?_
        refine G.zret X dX6_readsSite_148 ⟨Nat.le_refl _, Nat.le_refl _⟩ (Or.inr rfl) ⟨rfl, rfl, rfl, _, rfl, ?_⟩
        refine Or.inr ⟨_, _, sf7 hA hAs hB hBs hC hCs hD, ?_, ⟨(mu_ne (Or.inr (by decide))).trans hp1, mu_same⟩, ?_, hRd.p10⟩
        · first
          | exact (bi_t (by omega)).symm
          | exact (bi_f (by omega)).symm
        · unfold RqS
          rw [show mu M1 y 10 ((f : Int) + 1) (y + 7) = M1 (y + 7) from ms_ne (by omega)]
          exact ⟨hv0, hv1, hv2, hv3⟩
      · refine G.aload_n X 130 dX6_readsSite_129 rfl rfl ?_
        refine G.getR X fl_X6_25 133 dX6_readsSite_130 rfl (hY).1 (ShY.r8 hY) ?_
        refine G.aload_n X 134 dX6_readsSite_133 rfl rfl ?_
        refine G.getf (v := vi ((((numF t 48 3 ((numF t 48 3 ((numF t 49 2 ((numF t 49 1 u).2 + 1)).2 + 1)).2 + 1)).2) : Int))) X fl_X6_143 137 dX6_readsSite_134 rfl (hY).1 ((xV_int ((hY).2.1 9 (by decide))).trans (congrArg vi ?_)) ?_
        · exact (mu_ne (Or.inr (by decide))).trans hp1
        refine G.cald X (i := ((numF t 48 3 ((numF t 48 3 ((numF t 49 2 ((numF t 49 1 u).2 + 1)).2 + 1)).2 + 1)).2)) 138 dX6_readsSite_137 rfl ((ShY.a8 hY)).1 (((ShY.a8 hY)).2 _) rfl (by omega) (by decide) ?_
        rw [show mu M1 y 10 ((f : Int) + 1) (y + 6) ((numF t 48 3 ((numF t 48 3 ((numF t 49 2 ((numF t 49 1 u).2 + 1)).2 + 1)).2 + 1)).2) = t.getD ((numF t 48 3 ((numF t 48 3 ((numF t 49 2 ((numF t 49 1 u).2 + 1)).2 + 1)).2 + 1)).2) 0 from (mu_ne (Or.inl (by omega))).trans (hT1.2 _ (by omega))]
        have hch137 := hch ((numF t 48 3 ((numF t 48 3 ((numF t 49 2 ((numF t 49 1 u).2 + 1)).2 + 1)).2 + 1)).2) (by omega)
        refine G.bipush X 140 dX6_readsSite_138 rfl (by decide) ?_
        refine G.icmp_ne X 147 143 dX6_readsSite_140 (by decide) rfl (by omega) (by omega) (fun hc140 => ?_) (fun hc140 => ?_)
        · refine G.iconst X 148 dX6_readsSite_147 rfl ?_
          refine G.zret X dX6_readsSite_148 ⟨Nat.le_refl _, Nat.le_refl _⟩ (Or.inl rfl) ⟨rfl, rfl, rfl, _, rfl, ?_⟩
          refine Or.inr ⟨_, _, sf7 hA hAs hB hBs hC hCs hD, ?_, ⟨(mu_ne (Or.inr (by decide))).trans hp1, mu_same⟩, ?_, hRd.p10⟩
          · first
            | exact (bi_t (by omega)).symm
            | exact (bi_f (by omega)).symm
          · unfold RqS
            rw [show mu M1 y 10 ((f : Int) + 1) (y + 7) = M1 (y + 7) from ms_ne (by omega)]
            exact ⟨hv0, hv1, hv2, hv3⟩
        · refine G.iconst X 144 dX6_readsSite_143 rfl ?_
          refine G.goto X 148 dX6_readsSite_144 (by decide) ?_
          refine G.zret X dX6_readsSite_148 ⟨Nat.le_refl _, Nat.le_refl _⟩ (Or.inr rfl) ⟨rfl, rfl, rfl, _, rfl, ?_⟩
          refine Or.inr ⟨_, _, sf7 hA hAs hB hBs hC hCs hD, ?_, ⟨(mu_ne (Or.inr (by decide))).trans hp1, mu_same⟩, ?_, hRd.p10⟩
          · first
            | exact (bi_t (by omega)).symm
            | exact (bi_f (by omega)).symm
          · unfold RqS
            rw [show mu M1 y 10 ((f : Int) + 1) (y + 7) = M1 (y + 7) from ms_ne (by omega)]
            exact ⟨hv0, hv1, hv2, hv3⟩
    · exact absurd hc11 (by decide)
  have L9_3 : ∀ (M1 : xM), ¬ (numF t 49 1 u).1 = -1 → sg t (numF t 49 1 u).2 42 → ¬ (numF t 49 2 ((numF t 49 1 u).2 + 1)).1 = -1 → sg t (numF t 49 2 ((numF t 49 1 u).2 + 1)).2 64 → ¬ (numF t 48 3 ((numF t 49 2 ((numF t 49 1 u).2 + 1)).2 + 1)).1 = -1 → sg t (numF t 48 3 ((numF t 49 2 ((numF t 49 1 u).2 + 1)).2 + 1)).2 45 → RdF M M1 y f → M1 y 9 = (((numF t 48 3 ((numF t 49 2 ((numF t 49 1 u).2 + 1)).2 + 1)).2 + 1 : Nat) : Int) → M1 y 10 = (f : Int) → M1 (y + 7) (4 * f + 0) = (numF t 49 1 u).1 → M1 (y + 7) (4 * f + 1) = (numF t 49 2 ((numF t 49 1 u).2 + 1)).1 → M1 (y + 7) (4 * f + 2) = (numF t 48 3 ((numF t 49 2 ((numF t 49 1 u).2 + 1)).2 + 1)).1 → G p l e (rmd 2) s m args below meth c D Bs 3 0 0 (MQ below (xQ D Bs (pI sz kd rf (fun q M' => (∃ z, siteF t u = (none, z) ∧ q = 0 ∧ M' y 9 = (z : Int) ∧ RdF M M' y f) ∨ ∃ s z, siteF t u = (some s, z) ∧ q = bi (z = t.length ∨ t.getD z 0 = 59) ∧ (M' y 9 = (z : Int) ∧ M' y 10 = (f : Int) + 1) ∧ RqS M' y f s ∧ RdF M M' y f))) args s 0 0 (fun q => Bs ≤ q)) sz kd rf (M1) 9 [some (.ref y), some (vi (4 * (f : Int))), some (vi 3)] [] := by
    intro M1 hA hAs hB hBs hC hCs hRd hp1 hf1 hv0 hv1 hv2
    have hT1 : TxM M1 y t := hRd.tx ht
    have htl := ht.1.2
    refine G.iload_n X 10 dX6_readsSite_9 rfl rfl ?_
    refine G.iconst X 11 dX6_readsSite_10 rfl ?_
    refine G.icmp_ge X 108 14 dX6_readsSite_11 (by decide) rfl (by omega) (by omega) (fun hc11 => ?_) (fun hc11 => ?_)
    · exact absurd hc11 (by decide)
    · refine G.aload_n X 15 dX6_readsSite_14 rfl rfl ?_
      refine G.getR X fl_X6_29 18 dX6_readsSite_15 rfl (hY).1 (ShY.r11 hY) ?_
      refine G.iload_n X 19 dX6_readsSite_18 rfl rfl ?_
      refine G.iload_n X 20 dX6_readsSite_19 rfl rfl ?_
      refine G.iadd X 21 dX6_readsSite_20 rfl ?_
      refine G.aload_n X 22 dX6_readsSite_21 rfl rfl ?_
      refine G.iload_n X 23 dX6_readsSite_22 rfl rfl ?_
      refine G.if_ne X 30 26 dX6_readsSite_23 (by decide) rfl (by omega) (fun hc23 => ?_) (fun hc23 => ?_)
      · refine G.iload_n X 31 dX6_readsSite_30 rfl rfl ?_
        refine G.iconst X 32 dX6_readsSite_31 rfl ?_
        refine G.icmp_ne X 39 35 dX6_readsSite_32 (by decide) rfl (by omega) (by omega) (fun hc32 => ?_) (fun hc32 => ?_)
        · refine G.iconst X 40 dX6_readsSite_39 rfl ?_
          refine G.iload_n X 41 dX6_readsSite_40 rfl rfl ?_
          refine G.iconst X 42 dX6_readsSite_41 rfl ?_
          refine G.icmp_ge X 49 45 dX6_readsSite_42 (by decide) rfl (by omega) (by omega) (fun hc42 => ?_) (fun hc42 => ?_)
          · refine G.iconst X 50 dX6_readsSite_49 rfl ?_
            refine G.vI2 (d := 1) X ml_X6_149 yv_X6_number 53 dX6_readsSite_50 rfl (c_X6_number l D Bs _ kd rf _ y ((numF t 48 3 ((numF t 49 2 ((numF t 49 1 u).2 + 1)).2 + 1)).2 + 1) 3 0 t hY hT1 hp1 (by decide) (by decide) (by omega)) ⟨_, _, (hY).1, rfl, rfl⟩ (by decide) ⟨Nat.zero_le _, Nat.zero_le _⟩ (Nat.le_of_ble_eq_true rfl) (fun r50 M50 h50 => ?_)
            obtain ⟨hr50, hm50⟩ := h50
            rw [show (48 + 0 : Int) = 48 from rfl] at hr50 hm50
            subst hm50
            have hg50 := numF_rng (t := t) (lo := 48) (dg := 3) (p := (numF t 48 3 ((numF t 49 2 ((numF t 49 1 u).2 + 1)).2 + 1)).2 + 1) (by decide) (by decide)
            have hq50 : ((numF t 48 3 ((numF t 48 3 ((numF t 49 2 ((numF t 49 1 u).2 + 1)).2 + 1)).2 + 1)).1 = -1 ∧ r50 = -5) ∨ (¬ (numF t 48 3 ((numF t 48 3 ((numF t 49 2 ((numF t 49 1 u).2 + 1)).2 + 1)).2 + 1)).1 = -1 ∧ r50 = (numF t 48 3 ((numF t 48 3 ((numF t 49 2 ((numF t 49 1 u).2 + 1)).2 + 1)).2 + 1)).1) := by
              rw [hr50]
              by_cases e : (numF t 48 3 ((numF t 48 3 ((numF t 49 2 ((numF t 49 1 u).2 + 1)).2 + 1)).2 + 1)).1 = -1
              · exact Or.inl ⟨e, if_pos e⟩
              · exact Or.inr ⟨e, if_neg e⟩
            refine G.iast X (i := (4 * f + 3)) 54 dX6_readsSite_53 rfl ((ShY.a11 hY)).1 (((ShY.a11 hY)).2 _) (by omega) (by omega) (by decide) ?_
            refine G.aload_n X 55 dX6_readsSite_54 rfl rfl ?_
            refine G.getR X fl_X6_29 58 dX6_readsSite_55 rfl (hY).1 (ShY.r11 hY) ?_
            refine G.iload_n X 59 dX6_readsSite_58 rfl rfl ?_
            refine G.iload_n X 60 dX6_readsSite_59 rfl rfl ?_
            refine G.iadd X 61 dX6_readsSite_60 rfl ?_
            refine G.iald X (i := (4 * f + 3)) 62 dX6_readsSite_61 rfl ((ShY.a11 hY)).1 (((ShY.a11 hY)).2 _) (by omega) (by omega) (by decide) ?_
            rw [mu_same]
            refine G.bipush X 64 dX6_readsSite_62 rfl (by decide) ?_
            refine G.icmp_eq X 100 67 dX6_readsSite_64 (by decide) rfl (by omega) (by omega) (fun hc64 => ?_) (fun hc64 => ?_)
            · have hN : (numF t 48 3 ((numF t 48 3 ((numF t 49 2 ((numF t 49 1 u).2 + 1)).2 + 1)).2 + 1)).1 = -1 := by omega
              have hk94 := True.intro
              refine G.iconst X 101 dX6_readsSite_100 rfl ?_
              refine G.zret X dX6_readsSite_101 ⟨Nat.le_refl _, Nat.le_refl _⟩ (Or.inl rfl) ⟨rfl, rfl, rfl, _, rfl, ?_⟩
              exact Or.inl ⟨_, sf6 hA hAs hB hBs hC hCs hN, rfl, ((mu_ne (Or.inl (by omega))).trans mu_same), (hRd.p9.st (by omega))⟩
            · have hD : ¬ (numF t 48 3 ((numF t 48 3 ((numF t 49 2 ((numF t 49 1 u).2 + 1)).2 + 1)).2 + 1)).1 = -1 := by omega
              have hl64 := numF_some hD
              refine G.iload_n X 68 dX6_readsSite_67 rfl rfl ?_
              refine G.iconst X 69 dX6_readsSite_68 rfl ?_
              refine G.icmp_ge X 102 72 dX6_readsSite_69 (by decide) rfl (by omega) (by omega) (fun hc69 => ?_) (fun hc69 => ?_)
              · refine G.iinc (ls' := [_, _, _]) X 105 dX6_readsSite_102 rfl rfl (by decide) rfl ?_
                refine G.goto X 9 dX6_readsSite_105 (by decide) ?_
                exact L9_4 _ hA hAs hB hBs hC hCs hD (hRd.p9.st (by omega)) ((mu_ne (Or.inl (by omega))).trans mu_same) ((mu_ne (Or.inl (by omega))).trans ((mu_ne (Or.inr (by decide))).trans hf1)) ((mu_ne (Or.inr (by omega))).trans ((mu_ne (Or.inl (by omega))).trans hv0)) ((mu_ne (Or.inr (by omega))).trans ((mu_ne (Or.inl (by omega))).trans hv1)) ((mu_ne (Or.inr (by omega))).trans ((mu_ne (Or.inl (by omega))).trans hv2)) (mu_same.trans (by omega))
              · exact absurd hc69 (by decide)
          · exact absurd hc42 (by decide)
        · exact absurd hc32 (by decide)
      · exact absurd hc23 (by decide)
  have L9_2 : ∀ (M1 : xM), ¬ (numF t 49 1 u).1 = -1 → sg t (numF t 49 1 u).2 42 → ¬ (numF t 49 2 ((numF t 49 1 u).2 + 1)).1 = -1 → sg t (numF t 49 2 ((numF t 49 1 u).2 + 1)).2 64 → RdF M M1 y f → M1 y 9 = (((numF t 49 2 ((numF t 49 1 u).2 + 1)).2 + 1 : Nat) : Int) → M1 y 10 = (f : Int) → M1 (y + 7) (4 * f + 0) = (numF t 49 1 u).1 → M1 (y + 7) (4 * f + 1) = (numF t 49 2 ((numF t 49 1 u).2 + 1)).1 → G p l e (rmd 2) s m args below meth c D Bs 3 0 0 (MQ below (xQ D Bs (pI sz kd rf (fun q M' => (∃ z, siteF t u = (none, z) ∧ q = 0 ∧ M' y 9 = (z : Int) ∧ RdF M M' y f) ∨ ∃ s z, siteF t u = (some s, z) ∧ q = bi (z = t.length ∨ t.getD z 0 = 59) ∧ (M' y 9 = (z : Int) ∧ M' y 10 = (f : Int) + 1) ∧ RqS M' y f s ∧ RdF M M' y f))) args s 0 0 (fun q => Bs ≤ q)) sz kd rf (M1) 9 [some (.ref y), some (vi (4 * (f : Int))), some (vi 2)] [] := by
    intro M1 hA hAs hB hBs hRd hp1 hf1 hv0 hv1
    have hT1 : TxM M1 y t := hRd.tx ht
    have htl := ht.1.2
    refine G.iload_n X 10 dX6_readsSite_9 rfl rfl ?_
    refine G.iconst X 11 dX6_readsSite_10 rfl ?_
    refine G.icmp_ge X 108 14 dX6_readsSite_11 (by decide) rfl (by omega) (by omega) (fun hc11 => ?_) (fun hc11 => ?_)
    · exact absurd hc11 (by decide)
    · refine G.aload_n X 15 dX6_readsSite_14 rfl rfl ?_
      refine G.getR X fl_X6_29 18 dX6_readsSite_15 rfl (hY).1 (ShY.r11 hY) ?_
      refine G.iload_n X 19 dX6_readsSite_18 rfl rfl ?_
      refine G.iload_n X 20 dX6_readsSite_19 rfl rfl ?_
      refine G.iadd X 21 dX6_readsSite_20 rfl ?_
      refine G.aload_n X 22 dX6_readsSite_21 rfl rfl ?_
      refine G.iload_n X 23 dX6_readsSite_22 rfl rfl ?_
      refine G.if_ne X 30 26 dX6_readsSite_23 (by decide) rfl (by omega) (fun hc23 => ?_) (fun hc23 => ?_)
      · refine G.iload_n X 31 dX6_readsSite_30 rfl rfl ?_
        refine G.iconst X 32 dX6_readsSite_31 rfl ?_
        refine G.icmp_ne X 39 35 dX6_readsSite_32 (by decide) rfl (by omega) (by omega) (fun hc32 => ?_) (fun hc32 => ?_)
        · refine G.iconst X 40 dX6_readsSite_39 rfl ?_
          refine G.iload_n X 41 dX6_readsSite_40 rfl rfl ?_
          refine G.iconst X 42 dX6_readsSite_41 rfl ?_
          refine G.icmp_ge X 49 45 dX6_readsSite_42 (by decide) rfl (by omega) (by omega) (fun hc42 => ?_) (fun hc42 => ?_)
          · refine G.iconst X 50 dX6_readsSite_49 rfl ?_
            refine G.vI2 (d := 1) X ml_X6_149 yv_X6_number 53 dX6_readsSite_50 rfl (c_X6_number l D Bs _ kd rf _ y ((numF t 49 2 ((numF t 49 1 u).2 + 1)).2 + 1) 3 0 t hY hT1 hp1 (by decide) (by decide) (by omega)) ⟨_, _, (hY).1, rfl, rfl⟩ (by decide) ⟨Nat.zero_le _, Nat.zero_le _⟩ (Nat.le_of_ble_eq_true rfl) (fun r50 M50 h50 => ?_)
            obtain ⟨hr50, hm50⟩ := h50
            rw [show (48 + 0 : Int) = 48 from rfl] at hr50 hm50
            subst hm50
            have hg50 := numF_rng (t := t) (lo := 48) (dg := 3) (p := (numF t 49 2 ((numF t 49 1 u).2 + 1)).2 + 1) (by decide) (by decide)
            have hq50 : ((numF t 48 3 ((numF t 49 2 ((numF t 49 1 u).2 + 1)).2 + 1)).1 = -1 ∧ r50 = -5) ∨ (¬ (numF t 48 3 ((numF t 49 2 ((numF t 49 1 u).2 + 1)).2 + 1)).1 = -1 ∧ r50 = (numF t 48 3 ((numF t 49 2 ((numF t 49 1 u).2 + 1)).2 + 1)).1) := by
              rw [hr50]
              by_cases e : (numF t 48 3 ((numF t 49 2 ((numF t 49 1 u).2 + 1)).2 + 1)).1 = -1
              · exact Or.inl ⟨e, if_pos e⟩
              · exact Or.inr ⟨e, if_neg e⟩
            refine G.iast X (i := (4 * f + 2)) 54 dX6_readsSite_53 rfl ((ShY.a11 hY)).1 (((ShY.a11 hY)).2 _) (by omega) (by omega) (by decide) ?_
            refine G.aload_n X 55 dX6_readsSite_54 rfl rfl ?_
            refine G.getR X fl_X6_29 58 dX6_readsSite_55 rfl (hY).1 (ShY.r11 hY) ?_
            refine G.iload_n X 59 dX6_readsSite_58 rfl rfl ?_
            refine G.iload_n X 60 dX6_readsSite_59 rfl rfl ?_
            refine G.iadd X 61 dX6_readsSite_60 rfl ?_
            refine G.iald X (i := (4 * f + 2)) 62 dX6_readsSite_61 rfl ((ShY.a11 hY)).1 (((ShY.a11 hY)).2 _) (by omega) (by omega) (by decide) ?_
            rw [mu_same]
            refine G.bipush X 64 dX6_readsSite_62 rfl (by decide) ?_
            refine G.icmp_eq X 100 67 dX6_readsSite_64 (by decide) rfl (by omega) (by omega) (fun hc64 => ?_) (fun hc64 => ?_)
            · have hN : (numF t 48 3 ((numF t 49 2 ((numF t 49 1 u).2 + 1)).2 + 1)).1 = -1 := by omega
              have hk94 := True.intro
              refine G.iconst X 101 dX6_readsSite_100 rfl ?_
              refine G.zret X dX6_readsSite_101 ⟨Nat.le_refl _, Nat.le_refl _⟩ (Or.inl rfl) ⟨rfl, rfl, rfl, _, rfl, ?_⟩
              first
                | exact Or.inl ⟨_, sf4 hA hAs hB hBs hN, rfl, ((mu_ne (Or.inl (by omega))).trans mu_same), (hRd.p9.st (by omega))⟩
                | exact Or.inl ⟨_, sf5 hA hAs hB hBs hC hk94, rfl, ((mu_ne (Or.inl (by omega))).trans mu_same), (hRd.p9.st (by omega))⟩
            · have hC : ¬ (numF t 48 3 ((numF t 49 2 ((numF t 49 1 u).2 + 1)).2 + 1)).1 = -1 := by omega
              have hl64 := numF_some hC
              refine G.iload_n X 68 dX6_readsSite_67 rfl rfl ?_
              refine G.iconst X 69 dX6_readsSite_68 rfl ?_
              refine G.icmp_ge X 102 72 dX6_readsSite_69 (by decide) rfl (by omega) (by omega) (fun hc69 => ?_) (fun hc69 => ?_)
              · exact absurd hc69 (by decide)
              · refine G.aload_n X 73 dX6_readsSite_72 rfl rfl ?_
                refine G.iload_n X 74 dX6_readsSite_73 rfl rfl ?_
                refine G.if_ne X 82 77 dX6_readsSite_74 (by decide) rfl (by omega) (fun hc74 => ?_) (fun hc74 => ?_)
                · refine G.iload_n X 83 dX6_readsSite_82 rfl rfl ?_
                  refine G.iconst X 84 dX6_readsSite_83 rfl ?_
                  refine G.icmp_ne X 92 87 dX6_readsSite_84 (by decide) rfl (by omega) (by omega) (fun hc84 => ?_) (fun hc84 => ?_)
                  · refine G.bipush X 94 dX6_readsSite_92 rfl (by decide) ?_
                    refine G.vI1 (d := 0) X ml_X6_152 yv_X6_takes 97 dX6_readsSite_94 rfl (c_X6_takes l D Bs _ kd rf _ y ((numF t 48 3 ((numF t 49 2 ((numF t 49 1 u).2 + 1)).2 + 1)).2) 45 t hY ((hRd.p9.st (by omega)).tx ht) ((mu_ne (Or.inl (by omega))).trans mu_same) (by decide) (by omega)) ⟨_, _, (hY).1, rfl, rfl⟩ (by decide) ⟨Nat.zero_le _, Nat.zero_le _⟩ (Nat.le_of_ble_eq_true rfl) (fun r94 M94 h94 => ?_)
                    rcases h94 with ⟨hk94, hr94, hm94⟩ | ⟨hk94, hr94, hm94⟩
                    · subst hr94
                      subst hm94
                      refine G.if_ne X 102 100 dX6_readsSite_97 (by decide) rfl (by omega) (fun hc97 => ?_) (fun hc97 => ?_)
                      · refine G.iinc (ls' := [_, _, _]) X 105 dX6_readsSite_102 rfl rfl (by decide) rfl ?_
                        refine G.goto X 9 dX6_readsSite_105 (by decide) ?_
                        exact L9_3 _ hA hAs hB hBs hC hk94 (hRd.p9.st (by omega)).p9 (mu_same.trans (by omega)) ((mu_ne (Or.inr (by decide))).trans ((mu_ne (Or.inl (by omega))).trans ((mu_ne (Or.inr (by decide))).trans hf1))) ((mu_ne (Or.inl (by omega))).trans ((mu_ne (Or.inr (by omega))).trans ((mu_ne (Or.inl (by omega))).trans hv0))) ((mu_ne (Or.inl (by omega))).trans ((mu_ne (Or.inr (by omega))).trans ((mu_ne (Or.inl (by omega))).trans hv1))) ((mu_ne (Or.inl (by omega))).trans (mu_same.trans (by omega)))
                      · exact absurd hc97 (by decide)
                    · subst hr94
                      subst hm94
                      have hN := True.intro
                      refine G.if_ne X 102 100 dX6_readsSite_97 (by decide) rfl (by omega) (fun hc97 => ?_) (fun hc97 => ?_)
                      · exact absurd hc97 (by decide)
                      · refine G.iconst X 101 dX6_readsSite_100 rfl ?_
                        refine G.zret X dX6_readsSite_101 ⟨Nat.le_refl _, Nat.le_refl _⟩ (Or.inl rfl) ⟨rfl, rfl, rfl, _, rfl, ?_⟩
                        first
                          | exact Or.inl ⟨_, sf4 hA hAs hB hBs hN, rfl, ((mu_ne (Or.inl (by omega))).trans mu_same), (hRd.p9.st (by omega))⟩
                          | exact Or.inl ⟨_, sf5 hA hAs hB hBs hC hk94, rfl, ((mu_ne (Or.inl (by omega))).trans mu_same), (hRd.p9.st (by omega))⟩
                  · exact absurd hc84 (by decide)
                · exact absurd hc74 (by decide)
          · exact absurd hc42 (by decide)
        · exact absurd hc32 (by decide)
      · exact absurd hc23 (by decide)
  have L9_1 : ∀ (M1 : xM), ¬ (numF t 49 1 u).1 = -1 → sg t (numF t 49 1 u).2 42 → RdF M M1 y f → M1 y 9 = (((numF t 49 1 u).2 + 1 : Nat) : Int) → M1 y 10 = (f : Int) → M1 (y + 7) (4 * f + 0) = (numF t 49 1 u).1 → G p l e (rmd 2) s m args below meth c D Bs 3 0 0 (MQ below (xQ D Bs (pI sz kd rf (fun q M' => (∃ z, siteF t u = (none, z) ∧ q = 0 ∧ M' y 9 = (z : Int) ∧ RdF M M' y f) ∨ ∃ s z, siteF t u = (some s, z) ∧ q = bi (z = t.length ∨ t.getD z 0 = 59) ∧ (M' y 9 = (z : Int) ∧ M' y 10 = (f : Int) + 1) ∧ RqS M' y f s ∧ RdF M M' y f))) args s 0 0 (fun q => Bs ≤ q)) sz kd rf (M1) 9 [some (.ref y), some (vi (4 * (f : Int))), some (vi 1)] [] := by
    intro M1 hA hAs hRd hp1 hf1 hv0
    have hT1 : TxM M1 y t := hRd.tx ht
    have htl := ht.1.2
    refine G.iload_n X 10 dX6_readsSite_9 rfl rfl ?_
    refine G.iconst X 11 dX6_readsSite_10 rfl ?_
    refine G.icmp_ge X 108 14 dX6_readsSite_11 (by decide) rfl (by omega) (by omega) (fun hc11 => ?_) (fun hc11 => ?_)
    · exact absurd hc11 (by decide)
    · refine G.aload_n X 15 dX6_readsSite_14 rfl rfl ?_
      refine G.getR X fl_X6_29 18 dX6_readsSite_15 rfl (hY).1 (ShY.r11 hY) ?_
      refine G.iload_n X 19 dX6_readsSite_18 rfl rfl ?_
      refine G.iload_n X 20 dX6_readsSite_19 rfl rfl ?_
      refine G.iadd X 21 dX6_readsSite_20 rfl ?_
      refine G.aload_n X 22 dX6_readsSite_21 rfl rfl ?_
      refine G.iload_n X 23 dX6_readsSite_22 rfl rfl ?_
      refine G.if_ne X 30 26 dX6_readsSite_23 (by decide) rfl (by omega) (fun hc23 => ?_) (fun hc23 => ?_)
      · refine G.iload_n X 31 dX6_readsSite_30 rfl rfl ?_
        refine G.iconst X 32 dX6_readsSite_31 rfl ?_
        refine G.icmp_ne X 39 35 dX6_readsSite_32 (by decide) rfl (by omega) (by omega) (fun hc32 => ?_) (fun hc32 => ?_)
        · exact absurd hc32 (by decide)
        · refine G.iconst X 36 dX6_readsSite_35 rfl ?_
          refine G.goto X 40 dX6_readsSite_36 (by decide) ?_
          refine G.iload_n X 41 dX6_readsSite_40 rfl rfl ?_
          refine G.iconst X 42 dX6_readsSite_41 rfl ?_
          refine G.icmp_ge X 49 45 dX6_readsSite_42 (by decide) rfl (by omega) (by omega) (fun hc42 => ?_) (fun hc42 => ?_)
          · exact absurd hc42 (by decide)
          · refine G.iconst X 46 dX6_readsSite_45 rfl ?_
            refine G.goto X 50 dX6_readsSite_46 (by decide) ?_
            refine G.vI2 (d := 1) X ml_X6_149 yv_X6_number 53 dX6_readsSite_50 rfl (c_X6_number l D Bs _ kd rf _ y ((numF t 49 1 u).2 + 1) 2 1 t hY hT1 hp1 (by decide) (by decide) (by omega)) ⟨_, _, (hY).1, rfl, rfl⟩ (by decide) ⟨Nat.zero_le _, Nat.zero_le _⟩ (Nat.le_of_ble_eq_true rfl) (fun r50 M50 h50 => ?_)
            obtain ⟨hr50, hm50⟩ := h50
            rw [show (48 + 1 : Int) = 49 from rfl] at hr50 hm50
            subst hm50
            have hg50 := numF_rng (t := t) (lo := 49) (dg := 2) (p := (numF t 49 1 u).2 + 1) (by decide) (by decide)
            have hq50 : ((numF t 49 2 ((numF t 49 1 u).2 + 1)).1 = -1 ∧ r50 = -5) ∨ (¬ (numF t 49 2 ((numF t 49 1 u).2 + 1)).1 = -1 ∧ r50 = (numF t 49 2 ((numF t 49 1 u).2 + 1)).1) := by
              rw [hr50]
              by_cases e : (numF t 49 2 ((numF t 49 1 u).2 + 1)).1 = -1
              · exact Or.inl ⟨e, if_pos e⟩
              · exact Or.inr ⟨e, if_neg e⟩
            refine G.iast X (i := (4 * f + 1)) 54 dX6_readsSite_53 rfl ((ShY.a11 hY)).1 (((ShY.a11 hY)).2 _) (by omega) (by omega) (by decide) ?_
            refine G.aload_n X 55 dX6_readsSite_54 rfl rfl ?_
            refine G.getR X fl_X6_29 58 dX6_readsSite_55 rfl (hY).1 (ShY.r11 hY) ?_
            refine G.iload_n X 59 dX6_readsSite_58 rfl rfl ?_
            refine G.iload_n X 60 dX6_readsSite_59 rfl rfl ?_
            refine G.iadd X 61 dX6_readsSite_60 rfl ?_
            refine G.iald X (i := (4 * f + 1)) 62 dX6_readsSite_61 rfl ((ShY.a11 hY)).1 (((ShY.a11 hY)).2 _) (by omega) (by omega) (by decide) ?_
            rw [mu_same]
            refine G.bipush X 64 dX6_readsSite_62 rfl (by decide) ?_
            refine G.icmp_eq X 100 67 dX6_readsSite_64 (by decide) rfl (by omega) (by omega) (fun hc64 => ?_) (fun hc64 => ?_)
            · have hN : (numF t 49 2 ((numF t 49 1 u).2 + 1)).1 = -1 := by omega
              have hk94 := True.intro
              refine G.iconst X 101 dX6_readsSite_100 rfl ?_
              refine G.zret X dX6_readsSite_101 ⟨Nat.le_refl _, Nat.le_refl _⟩ (Or.inl rfl) ⟨rfl, rfl, rfl, _, rfl, ?_⟩
              first
                | exact Or.inl ⟨_, sf2 hA hAs hN, rfl, ((mu_ne (Or.inl (by omega))).trans mu_same), (hRd.p9.st (by omega))⟩
                | exact Or.inl ⟨_, sf3 hA hAs hB hk94, rfl, ((mu_ne (Or.inl (by omega))).trans mu_same), (hRd.p9.st (by omega))⟩
            · have hB : ¬ (numF t 49 2 ((numF t 49 1 u).2 + 1)).1 = -1 := by omega
              have hl64 := numF_some hB
              refine G.iload_n X 68 dX6_readsSite_67 rfl rfl ?_
              refine G.iconst X 69 dX6_readsSite_68 rfl ?_
              refine G.icmp_ge X 102 72 dX6_readsSite_69 (by decide) rfl (by omega) (by omega) (fun hc69 => ?_) (fun hc69 => ?_)
              · exact absurd hc69 (by decide)
              · refine G.aload_n X 73 dX6_readsSite_72 rfl rfl ?_
                refine G.iload_n X 74 dX6_readsSite_73 rfl rfl ?_
                refine G.if_ne X 82 77 dX6_readsSite_74 (by decide) rfl (by omega) (fun hc74 => ?_) (fun hc74 => ?_)
                · refine G.iload_n X 83 dX6_readsSite_82 rfl rfl ?_
                  refine G.iconst X 84 dX6_readsSite_83 rfl ?_
                  refine G.icmp_ne X 92 87 dX6_readsSite_84 (by decide) rfl (by omega) (by omega) (fun hc84 => ?_) (fun hc84 => ?_)
                  · exact absurd hc84 (by decide)
                  · refine G.bipush X 89 dX6_readsSite_87 rfl (by decide) ?_
                    refine G.goto X 94 dX6_readsSite_89 (by decide) ?_
                    refine G.vI1 (d := 0) X ml_X6_152 yv_X6_takes 97 dX6_readsSite_94 rfl (c_X6_takes l D Bs _ kd rf _ y ((numF t 49 2 ((numF t 49 1 u).2 + 1)).2) 64 t hY ((hRd.p9.st (by omega)).tx ht) ((mu_ne (Or.inl (by omega))).trans mu_same) (by decide) (by omega)) ⟨_, _, (hY).1, rfl, rfl⟩ (by decide) ⟨Nat.zero_le _, Nat.zero_le _⟩ (Nat.le_of_ble_eq_true rfl) (fun r94 M94 h94 => ?_)
                    rcases h94 with ⟨hk94, hr94, hm94⟩ | ⟨hk94, hr94, hm94⟩
                    · subst hr94
                      subst hm94
                      refine G.if_ne X 102 100 dX6_readsSite_97 (by decide) rfl (by omega) (fun hc97 => ?_) (fun hc97 => ?_)
                      · refine G.iinc (ls' := [_, _, _]) X 105 dX6_readsSite_102 rfl rfl (by decide) rfl ?_
                        refine G.goto X 9 dX6_readsSite_105 (by decide) ?_
                        exact L9_2 _ hA hAs hB hk94 (hRd.p9.st (by omega)).p9 (mu_same.trans (by omega)) ((mu_ne (Or.inr (by decide))).trans ((mu_ne (Or.inl (by omega))).trans ((mu_ne (Or.inr (by decide))).trans hf1))) ((mu_ne (Or.inl (by omega))).trans ((mu_ne (Or.inr (by omega))).trans ((mu_ne (Or.inl (by omega))).trans hv0))) ((mu_ne (Or.inl (by omega))).trans (mu_same.trans (by omega)))
                      · exact absurd hc97 (by decide)
                    · subst hr94
                      subst hm94
                      have hN := True.intro
                      refine G.if_ne X 102 100 dX6_readsSite_97 (by decide) rfl (by omega) (fun hc97 => ?_) (fun hc97 => ?_)
                      · exact absurd hc97 (by decide)
                      · refine G.iconst X 101 dX6_readsSite_100 rfl ?_
                        refine G.zret X dX6_readsSite_101 ⟨Nat.le_refl _, Nat.le_refl _⟩ (Or.inl rfl) ⟨rfl, rfl, rfl, _, rfl, ?_⟩
                        first
                          | exact Or.inl ⟨_, sf2 hA hAs hN, rfl, ((mu_ne (Or.inl (by omega))).trans mu_same), (hRd.p9.st (by omega))⟩
                          | exact Or.inl ⟨_, sf3 hA hAs hB hk94, rfl, ((mu_ne (Or.inl (by omega))).trans mu_same), (hRd.p9.st (by omega))⟩
                · exact absurd hc74 (by decide)
      · exact absurd hc23 (by decide)
  have L9_0 : ∀ (M1 : xM), RdF M M1 y f → M1 y 9 = ((u : Nat) : Int) → M1 y 10 = (f : Int) → G p l e (rmd 2) s m args below meth c D Bs 3 0 0 (MQ below (xQ D Bs (pI sz kd rf (fun q M' => (∃ z, siteF t u = (none, z) ∧ q = 0 ∧ M' y 9 = (z : Int) ∧ RdF M M' y f) ∨ ∃ s z, siteF t u = (some s, z) ∧ q = bi (z = t.length ∨ t.getD z 0 = 59) ∧ (M' y 9 = (z : Int) ∧ M' y 10 = (f : Int) + 1) ∧ RqS M' y f s ∧ RdF M M' y f))) args s 0 0 (fun q => Bs ≤ q)) sz kd rf (M1) 9 [some (.ref y), some (vi (4 * (f : Int))), some (vi 0)] [] := by
    intro M1 hRd hp1 hf1
    have hT1 : TxM M1 y t := hRd.tx ht
    have htl := ht.1.2
    refine G.iload_n X 10 dX6_readsSite_9 rfl rfl ?_
    refine G.iconst X 11 dX6_readsSite_10 rfl ?_
    refine G.icmp_ge X 108 14 dX6_readsSite_11 (by decide) rfl (by omega) (by omega) (fun hc11 => ?_) (fun hc11 => ?_)
    · exact absurd hc11 (by decide)
    · refine G.aload_n X 15 dX6_readsSite_14 rfl rfl ?_
      refine G.getR X fl_X6_29 18 dX6_readsSite_15 rfl (hY).1 (ShY.r11 hY) ?_
      refine G.iload_n X 19 dX6_readsSite_18 rfl rfl ?_
      refine G.iload_n X 20 dX6_readsSite_19 rfl rfl ?_
      refine G.iadd X 21 dX6_readsSite_20 rfl ?_
      refine G.aload_n X 22 dX6_readsSite_21 rfl rfl ?_
      refine G.iload_n X 23 dX6_readsSite_22 rfl rfl ?_
      refine G.if_ne X 30 26 dX6_readsSite_23 (by decide) rfl (by omega) (fun hc23 => ?_) (fun hc23 => ?_)
      · exact absurd hc23 (by decide)
      · refine G.iconst X 27 dX6_readsSite_26 rfl ?_
        refine G.goto X 40 dX6_readsSite_27 (by decide) ?_
        refine G.iload_n X 41 dX6_readsSite_40 rfl rfl ?_
        refine G.iconst X 42 dX6_readsSite_41 rfl ?_
        refine G.icmp_ge X 49 45 dX6_readsSite_42 (by decide) rfl (by omega) (by omega) (fun hc42 => ?_) (fun hc42 => ?_)
        · exact absurd hc42 (by decide)
        · refine G.iconst X 46 dX6_readsSite_45 rfl ?_
          refine G.goto X 50 dX6_readsSite_46 (by decide) ?_
          refine G.vI2 (d := 1) X ml_X6_149 yv_X6_number 53 dX6_readsSite_50 rfl (c_X6_number l D Bs _ kd rf _ y (u) 1 1 t hY hT1 hp1 (by decide) (by decide) (by omega)) ⟨_, _, (hY).1, rfl, rfl⟩ (by decide) ⟨Nat.zero_le _, Nat.zero_le _⟩ (Nat.le_of_ble_eq_true rfl) (fun r50 M50 h50 => ?_)
          obtain ⟨hr50, hm50⟩ := h50
          rw [show (48 + 1 : Int) = 49 from rfl] at hr50 hm50
          subst hm50
          have hg50 := numF_rng (t := t) (lo := 49) (dg := 1) (p := u) (by decide) (by decide)
          have hq50 : ((numF t 49 1 u).1 = -1 ∧ r50 = -5) ∨ (¬ (numF t 49 1 u).1 = -1 ∧ r50 = (numF t 49 1 u).1) := by
            rw [hr50]
            by_cases e : (numF t 49 1 u).1 = -1
            · exact Or.inl ⟨e, if_pos e⟩
            · exact Or.inr ⟨e, if_neg e⟩
          refine G.iast X (i := (4 * f + 0)) 54 dX6_readsSite_53 rfl ((ShY.a11 hY)).1 (((ShY.a11 hY)).2 _) (by omega) (by omega) (by decide) ?_
          refine G.aload_n X 55 dX6_readsSite_54 rfl rfl ?_
          refine G.getR X fl_X6_29 58 dX6_readsSite_55 rfl (hY).1 (ShY.r11 hY) ?_
          refine G.iload_n X 59 dX6_readsSite_58 rfl rfl ?_
          refine G.iload_n X 60 dX6_readsSite_59 rfl rfl ?_
          refine G.iadd X 61 dX6_readsSite_60 rfl ?_
          refine G.iald X (i := (4 * f + 0)) 62 dX6_readsSite_61 rfl ((ShY.a11 hY)).1 (((ShY.a11 hY)).2 _) (by omega) (by omega) (by decide) ?_
          rw [mu_same]
          refine G.bipush X 64 dX6_readsSite_62 rfl (by decide) ?_
          refine G.icmp_eq X 100 67 dX6_readsSite_64 (by decide) rfl (by omega) (by omega) (fun hc64 => ?_) (fun hc64 => ?_)
          · have hN : (numF t 49 1 u).1 = -1 := by omega
            have hk94 := True.intro
            refine G.iconst X 101 dX6_readsSite_100 rfl ?_
            refine G.zret X dX6_readsSite_101 ⟨Nat.le_refl _, Nat.le_refl _⟩ (Or.inl rfl) ⟨rfl, rfl, rfl, _, rfl, ?_⟩
            first
              | exact Or.inl ⟨_, sf0  hN, rfl, ((mu_ne (Or.inl (by omega))).trans mu_same), (hRd.p9.st (by omega))⟩
              | exact Or.inl ⟨_, sf1  hA hk94, rfl, ((mu_ne (Or.inl (by omega))).trans mu_same), (hRd.p9.st (by omega))⟩
          · have hA : ¬ (numF t 49 1 u).1 = -1 := by omega
            have hl64 := numF_some hA
            refine G.iload_n X 68 dX6_readsSite_67 rfl rfl ?_
            refine G.iconst X 69 dX6_readsSite_68 rfl ?_
            refine G.icmp_ge X 102 72 dX6_readsSite_69 (by decide) rfl (by omega) (by omega) (fun hc69 => ?_) (fun hc69 => ?_)
            · exact absurd hc69 (by decide)
            · refine G.aload_n X 73 dX6_readsSite_72 rfl rfl ?_
              refine G.iload_n X 74 dX6_readsSite_73 rfl rfl ?_
              refine G.if_ne X 82 77 dX6_readsSite_74 (by decide) rfl (by omega) (fun hc74 => ?_) (fun hc74 => ?_)
              · exact absurd hc74 (by decide)
              · refine G.bipush X 79 dX6_readsSite_77 rfl (by decide) ?_
                refine G.goto X 94 dX6_readsSite_79 (by decide) ?_
                refine G.vI1 (d := 0) X ml_X6_152 yv_X6_takes 97 dX6_readsSite_94 rfl (c_X6_takes l D Bs _ kd rf _ y ((numF t 49 1 u).2) 42 t hY ((hRd.p9.st (by omega)).tx ht) ((mu_ne (Or.inl (by omega))).trans mu_same) (by decide) (by omega)) ⟨_, _, (hY).1, rfl, rfl⟩ (by decide) ⟨Nat.zero_le _, Nat.zero_le _⟩ (Nat.le_of_ble_eq_true rfl) (fun r94 M94 h94 => ?_)
                rcases h94 with ⟨hk94, hr94, hm94⟩ | ⟨hk94, hr94, hm94⟩
                · subst hr94
                  subst hm94
                  refine G.if_ne X 102 100 dX6_readsSite_97 (by decide) rfl (by omega) (fun hc97 => ?_) (fun hc97 => ?_)
                  · refine G.iinc (ls' := [_, _, _]) X 105 dX6_readsSite_102 rfl rfl (by decide) rfl ?_
                    refine G.goto X 9 dX6_readsSite_105 (by decide) ?_
                    exact L9_1 _ hA hk94 (hRd.p9.st (by omega)).p9 (mu_same.trans (by omega)) ((mu_ne (Or.inr (by decide))).trans ((mu_ne (Or.inl (by omega))).trans ((mu_ne (Or.inr (by decide))).trans hf1))) ((mu_ne (Or.inl (by omega))).trans (mu_same.trans (by omega)))
                  · exact absurd hc97 (by decide)
                · subst hr94
                  subst hm94
                  have hN := True.intro
                  refine G.if_ne X 102 100 dX6_readsSite_97 (by decide) rfl (by omega) (fun hc97 => ?_) (fun hc97 => ?_)
                  · exact absurd hc97 (by decide)
                  · refine G.iconst X 101 dX6_readsSite_100 rfl ?_
                    refine G.zret X dX6_readsSite_101 ⟨Nat.le_refl _, Nat.le_refl _⟩ (Or.inl rfl) ⟨rfl, rfl, rfl, _, rfl, ?_⟩
                    first
                      | exact Or.inl ⟨_, sf0  hN, rfl, ((mu_ne (Or.inl (by omega))).trans mu_same), (hRd.p9.st (by omega))⟩
                      | exact Or.inl ⟨_, sf1  hA hk94, rfl, ((mu_ne (Or.inl (by omega))).trans mu_same), (hRd.p9.st (by omega))⟩
  refine G.iconst X 1 dX6_readsSite_0 rfl ?_
  refine G.aload_n X 2 dX6_readsSite_1 rfl rfl ?_
  refine G.getf (v := vi ((f : Int))) X fl_X6_146 5 dX6_readsSite_2 rfl (hY).1 ((xV_int ((hY).2.1 10 (by decide))).trans (congrArg vi ?_)) ?_
  · exact hf
  refine G.imul X 6 dX6_readsSite_5 rfl ?_
  refine G.istore_n (ls' := [_, _, _]) X 7 dX6_readsSite_6 rfl (by decide) rfl ?_
  refine G.iconst X 8 dX6_readsSite_7 rfl ?_
  refine G.istore_n (ls' := [_, _, _]) X 9 dX6_readsSite_8 rfl (by decide) rfl ?_
  exact L9_0 M RdF.rf hp hf
