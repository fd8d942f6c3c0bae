def HiR (M : xM) (y : Nat) (h : List xR) : Prop := M y 2 = (h.length : Int) ∧ h.length ≤ 5 ∧ ∀ j q, h[j]? = some q → ∀ k, k < 236 → M (y + 2) (236 * (h.length - 1 - j) + k) = q k
def OfH (M M' : xM) (y : Nat) : Prop := (∀ a, a ≠ y → a ≠ y + 2 → M' a = M a) ∧ ∀ k, k ≠ 2 → M' y k = M y k
theorem HiR.push {M M' : xM} {y : Nat} {h : List xR} {r : xR} (hh : HiR M y h) (hl : h.length < 5) (hA : ∀ q, q < 236 * h.length → M' (y + 2) q = M (y + 2) q) (hB : ∀ k, k < 236 → M' (y + 2) (236 * h.length + k) = r k) (hc : M' y 2 = (h.length : Int) + 1) : HiR M' y (r :: h) := by
  refine ⟨by rw [List.length_cons]; omega, by rw [List.length_cons]; omega, fun j q hj k hk => ?_⟩
  rw [List.length_cons]
  cases j with
  | zero =>
    rw [show h.length + 1 - 1 - 0 = h.length by omega, hB k hk]
    rw [List.getElem?_cons_zero] at hj
    rw [Option.some.inj hj]
  | succ j =>
    rw [List.getElem?_cons_succ] at hj
    have hjl := (List.getElem?_eq_some_iff.mp hj).1
    rw [show h.length + 1 - 1 - (j + 1) = h.length - 1 - j by omega, hA _ (by omega)]
    exact hh.2.2 j q hj k hk
theorem HiR.shift {M M' : xM} {y : Nat} {h : List xR} (hh : HiR M y h) (hl : h.length = 5) (hA : ∀ q, q < 944 → M' (y + 2) q = M (y + 2) (q + 236)) (hc : M' y 2 = 4) : HiR M' y (h.take 4) := by
  have ht : (h.take 4).length = 4 := by rw [List.length_take]; omega
  refine ⟨by rw [ht]; exact hc, by rw [ht]; decide, fun j q hj k hk => ?_⟩
  have hjl := (List.getElem?_eq_some_iff.mp hj).1
  rw [ht] at hjl ⊢
  rw [List.getElem?_take, if_pos hjl] at hj
  have h1 := hh.2.2 j q hj k hk
  rw [hl] at h1
  rw [hA _ (by omega), ← h1]
  exact congrArg _ (by omega)
set_option maxHeartbeats 1000000 in
set_option maxRecDepth 100000 in
theorem c_X6_record (l : Launch) (D : xD) (Bs sz : Nat) (kd : xKd) (rf : xRf) (M : xM) (y : Nat) (h : List xR) (hY : ShY kd rf y) (hH : HiR M y h) : CtV l D Bs yX6_record cX6_record 2 none 0 [.ref y] sz kd rf M (fun M' => HiR M' y (((M (y + 1)) :: h).take 5) ∧ OfH M M' y) := by
  refine Ctr.of (yv_X6_record.1.2.2.2.2) (List.forall_mem_cons.mpr ⟨rfl, fun _ h => absurd h List.not_mem_nil⟩) (Nat.le_of_ble_eq_true rfl) [some (.ref y), none] rfl ?_
  intro p e s m args below meth c X hin
  have hH5 := hH.2.1
  have L51 : ∀ (k : Nat) (i : Nat) (g : List xR) (M0 M1 : xM), i + k = 236 → HiR M0 y g → g.length < 5 → (M (y + 1)) :: g = ((M (y + 1)) :: h).take 5 → OfH M M0 y → M1 y = M0 y → (∀ a, a ≠ y + 2 → M1 a = M0 a) → (∀ q, q < 236 * g.length → M1 (y + 2) q = M0 (y + 2) q) → (∀ z, z < i → M1 (y + 2) (236 * g.length + z) = M (y + 1) z) → G p l e (rmd 0) s m args below meth c D Bs 2 0 0 (MQ below (xQ D Bs (pV sz kd rf (fun M' => HiR M' y (((M (y + 1)) :: h).take 5) ∧ OfH M M' y))) args s 0 0 (fun q => Bs ≤ q)) sz kd rf (M1) 51 [some (.ref y), some (vi (i : Int))] [] := by
    intro k
    induction k with
    | zero =>
      intro i g M0 M1 hik hG hl hg hO hA hB hC hD
      obtain rfl : i = 236 := by omega
      refine G.iload_n X 52 dX6_record_51 rfl rfl ?_
      refine G.sipush X 55 dX6_record_52 rfl (by decide) ?_
      refine G.icmp_ge X 85 58 dX6_record_55 (by decide) rfl (by omega) (by omega) (fun hc55 => ?_) (fun hc55 => ?_)
      · refine G.aload_n X 86 dX6_record_85 rfl rfl ?_
        refine G.dup X 87 dX6_record_86 rfl rfl ?_
        refine G.getf (v := vi ((g.length : Int))) X fl_X6_32 90 dX6_record_87 rfl (hY).1 ((xV_int ((hY).2.1 2 (by decide))).trans (congrArg vi ?_)) ?_
        · rw [hA]
          exact hG.1
        refine G.iconst X 91 dX6_record_90 rfl ?_
        refine G.iadd X 92 dX6_record_91 rfl ?_
        refine G.putI X fl_X6_32 fi_6_2 rfl 95 dX6_record_92 rfl (hY).1 ((hY).2.1 2 (by decide)) ?_
        refine G.vret X dX6_record_95 ⟨Nat.le_refl _, Nat.le_refl _⟩ ⟨rfl, rfl, rfl, rfl, ?_⟩
        refine ⟨?_, fun a h1 h2 => (ms_ne h1).trans ((hB a h2).trans (hO.1 a h1 h2)), fun k hk => ?_⟩
        · rw [← hg]
          refine hG.push hl (fun q hq => ?_) (fun k hk => ?_) ?_
          · rw [mu_ne (Or.inl (by omega))]
            exact hC q hq
          · rw [mu_ne (Or.inl (by omega))]
            exact hD k hk
          · exact mu_same
        · rw [mu_ne (Or.inr hk), hA]
          exact hO.2 k hk
      · exfalso; omega
    | succ k ih =>
      intro i g M0 M1 hik hG hl hg hO hA hB hC hD
      refine G.iload_n X 52 dX6_record_51 rfl rfl ?_
      refine G.sipush X 55 dX6_record_52 rfl (by decide) ?_
      refine G.icmp_ge X 85 58 dX6_record_55 (by decide) rfl (by omega) (by omega) (fun hc55 => ?_) (fun hc55 => ?_)
      · exfalso; omega
      · refine G.aload_n X 59 dX6_record_58 rfl rfl ?_
        refine G.getR X fl_X6_13 62 dX6_record_59 rfl (hY).1 (ShY.r1 hY) ?_
        refine G.sipush X 65 dX6_record_62 rfl (by decide) ?_
        refine G.aload_n X 66 dX6_record_65 rfl rfl ?_
        refine G.getf (v := vi ((g.length : Int))) X fl_X6_32 69 dX6_record_66 rfl (hY).1 ((xV_int ((hY).2.1 2 (by decide))).trans (congrArg vi ?_)) ?_
        · rw [hA]
          exact hG.1
        refine G.imul X 70 dX6_record_69 rfl ?_
        refine G.iload_n X 71 dX6_record_70 rfl rfl ?_
        refine G.iadd X 72 dX6_record_71 rfl ?_
        refine G.aload_n X 73 dX6_record_72 rfl rfl ?_
        refine G.getR X fl_X6_7 76 dX6_record_73 rfl (hY).1 (ShY.r0 hY) ?_
        refine G.iload_n X 77 dX6_record_76 rfl rfl ?_
        refine G.iald X (i := (i)) 78 dX6_record_77 rfl ((ShY.a0 hY)).1 (((ShY.a0 hY)).2 _) rfl (by omega) (by decide) ?_
        refine G.iast X (i := (236 * g.length + i)) 79 dX6_record_78 rfl ((ShY.a1 hY)).1 (((ShY.a1 hY)).2 _) (by omega) (by omega) (by decide) ?_
        refine G.iinc (ls' := [_, _]) X 82 dX6_record_79 rfl rfl (by decide) rfl ?_
        refine G.goto X 51 dX6_record_82 (by decide) ?_
        refine ih (i + 1) g M0 _ (by omega) hG hl hg hO ?_ ?_ ?_ ?_
        · exact (ms_ne (by omega)).trans hA
        · intro a ha
          exact (ms_ne ha).trans (hB a ha)
        · intro q hq
          rw [mu_ne (Or.inr (by omega))]
          exact hC q hq
        · intro z hz
          by_cases e : z = i
          · subst e
            rw [mu_same, hB _ (by omega), hO.1 _ (by omega) (by omega)]
          · rw [mu_ne (Or.inr (by omega))]
            exact hD z (by omega)
  have L49 : ∀ (g : List xR) (M1 : xM), HiR M1 y g → g.length < 5 → (M (y + 1)) :: g = ((M (y + 1)) :: h).take 5 → OfH M M1 y → G p l e (rmd 0) s m args below meth c D Bs 2 0 0 (MQ below (xQ D Bs (pV sz kd rf (fun M' => HiR M' y (((M (y + 1)) :: h).take 5) ∧ OfH M M' y))) args s 0 0 (fun q => Bs ≤ q)) sz kd rf (M1) 49 [some (.ref y), none] [] := by
    intro g M1 hG hl hg hO
    refine G.iconst X 50 dX6_record_49 rfl ?_
    refine G.istore_n (ls' := [_, _]) X 51 dX6_record_50 rfl (by decide) rfl ?_
    exact L51 236 0 g M1 M1 (by omega) hG hl hg hO rfl (fun a _ => rfl) (fun q _ => rfl) (fun z hz => absurd hz (Nat.not_lt_zero z))
  have L10 : ∀ (k : Nat) (i : Nat) (M1 : xM), i + k = 944 → h.length = 5 → (∀ a, a ≠ y + 2 → M1 a = M a) → (∀ q, q < i → M1 (y + 2) q = M (y + 2) (q + 236)) → (∀ q, i ≤ q → M1 (y + 2) q = M (y + 2) q) → G p l e (rmd 0) s m args below meth c D Bs 2 0 0 (MQ below (xQ D Bs (pV sz kd rf (fun M' => HiR M' y (((M (y + 1)) :: h).take 5) ∧ OfH M M' y))) args s 0 0 (fun q => Bs ≤ q)) sz kd rf (M1) 10 [some (.ref y), some (vi (i : Int))] [] := by
    intro k
    induction k with
    | zero =>
      intro i M1 hik h5 hA hB hC
      obtain rfl : i = 944 := by omega
      refine G.iload_n X 11 dX6_record_10 rfl rfl ?_
      refine G.sipush X 14 dX6_record_11 rfl (by decide) ?_
      refine G.icmp_ge X 39 17 dX6_record_14 (by decide) rfl (by omega) (by omega) (fun hc14 => ?_) (fun hc14 => ?_)
      · refine G.aload_n X 40 dX6_record_39 rfl rfl ?_
        refine G.dup X 41 dX6_record_40 rfl rfl ?_
        refine G.getf (v := vi (5)) X fl_X6_32 44 dX6_record_41 rfl (hY).1 ((xV_int ((hY).2.1 2 (by decide))).trans (congrArg vi ?_)) ?_
        · rw [hA y (by omega), hH.1, h5]
          rfl
        refine G.iconst X 45 dX6_record_44 rfl ?_
        refine G.isub X 46 dX6_record_45 rfl ?_
        refine G.putI X fl_X6_32 fi_6_2 rfl 49 dX6_record_46 rfl (hY).1 ((hY).2.1 2 (by decide)) ?_
        refine G.drop 1 ?_
        first
          | exact L49 (h.take 4) _ (hH.shift h5 (fun q hq => (mu_ne (Or.inl (by omega))).trans (hB q hq)) mu_same) (by rw [List.length_take]; omega) rfl ⟨fun a h1 h2 => (ms_ne h1).trans (hA a h2), fun k hk => (mu_ne (Or.inr hk)).trans (congrFun (hA y (by omega)) k)⟩
          | exact L49 h M hH (by omega) (List.take_of_length_le (by rw [List.length_cons]; omega)).symm ⟨fun a _ _ => rfl, fun k _ => rfl⟩
      · exfalso; omega
    | succ k ih =>
      intro i M1 hik h5 hA hB hC
      refine G.iload_n X 11 dX6_record_10 rfl rfl ?_
      refine G.sipush X 14 dX6_record_11 rfl (by decide) ?_
      refine G.icmp_ge X 39 17 dX6_record_14 (by decide) rfl (by omega) (by omega) (fun hc14 => ?_) (fun hc14 => ?_)
      · exfalso; omega
      · refine G.aload_n X 18 dX6_record_17 rfl rfl ?_
        refine G.getR X fl_X6_13 21 dX6_record_18 rfl (hY).1 (ShY.r1 hY) ?_
        refine G.iload_n X 22 dX6_record_21 rfl rfl ?_
        refine G.aload_n X 23 dX6_record_22 rfl rfl ?_
        refine G.getR X fl_X6_13 26 dX6_record_23 rfl (hY).1 (ShY.r1 hY) ?_
        refine G.iload_n X 27 dX6_record_26 rfl rfl ?_
        refine G.sipush X 30 dX6_record_27 rfl (by decide) ?_
        refine G.iadd X 31 dX6_record_30 rfl ?_
        refine G.iald X (i := (i + 236)) 32 dX6_record_31 rfl ((ShY.a1 hY)).1 (((ShY.a1 hY)).2 _) (by omega) (by omega) (by decide) ?_
        refine G.iast X (i := (i)) 33 dX6_record_32 rfl ((ShY.a1 hY)).1 (((ShY.a1 hY)).2 _) rfl (by omega) (by decide) ?_
        refine G.iinc (ls' := [_, _]) X 36 dX6_record_33 rfl rfl (by decide) rfl ?_
        refine G.goto X 10 dX6_record_36 (by decide) ?_
        refine ih (i + 1) _ (by omega) h5 ?_ ?_ ?_
        · intro a ha
          exact (ms_ne ha).trans (hA a ha)
        · intro q hq
          by_cases e : q = i
          · subst e
            rw [mu_same]
            exact hC _ (by omega)
          · rw [mu_ne (Or.inr e)]
            exact hB q (by omega)
        · intro q hq
          rw [mu_ne (Or.inr (by omega))]
          exact hC q (by omega)
  refine G.aload_n X 1 dX6_record_0 rfl rfl ?_
  refine G.getf (v := vi ((h.length : Int))) X fl_X6_32 4 dX6_record_1 rfl (hY).1 ((xV_int ((hY).2.1 2 (by decide))).trans (congrArg vi ?_)) ?_
  · exact hH.1
  refine G.iconst X 5 dX6_record_4 rfl ?_
  refine G.icmp_ne X 49 8 dX6_record_5 (by decide) rfl (by omega) (by omega) (fun hc5 => ?_) (fun hc5 => ?_)
  · first
      | exact L49 (h.take 4) _ (hH.shift h5 (fun q hq => (mu_ne (Or.inl (by omega))).trans (hB q hq)) mu_same) (by rw [List.length_take]; omega) rfl ⟨fun a h1 h2 => (ms_ne h1).trans (hA a h2), fun k hk => (mu_ne (Or.inr hk)).trans (congrFun (hA y (by omega)) k)⟩
      | exact L49 h M hH (by omega) (List.take_of_length_le (by rw [List.length_cons]; omega)).symm ⟨fun a _ _ => rfl, fun k _ => rfl⟩
  · refine G.iconst X 9 dX6_record_8 rfl ?_
    refine G.istore_n (ls' := [_, _]) X 10 dX6_record_9 rfl (by decide) rfl ?_
    exact L10 944 0 M (by omega) (by omega) (fun a _ => rfl) (fun q hq => absurd hq (Nat.not_lt_zero q)) (fun q _ => rfl)
