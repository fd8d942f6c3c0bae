abbrev roomF (r : xR) (s : Nat) : Int := fS r (hasN r s) 1 - fS r (hasN r s) 4
theorem roomF_rng {r : xR} {w d : Int} {s : Nat} (h : Vb r w d) (hs : s < nC r) (h4 : 0 < fC r s 4) : 0 ≤ roomF r s ∧ roomF r s ≤ 500 := by
  have hm := (hasN_lt h hs h4).1
  have g := h.2.1 _ hm
  unfold Vset at g
  unfold roomF
  omega
theorem lessI_comm (a b : Int) : lessI a b = lessI b a := by
  unfold lessI
  split <;> split <;> omega
theorem fillR_0 {r : xR} {m : Nat} : fillR r m 0 = r := by
  unfold fillR
  rw [fu_eq (r := r) (k := 16 + 10 * m + 4) (x := fS r m 4 + 0) (Int.add_zero _), fu_eq (Int.sub_zero _)]
theorem fuelL_t (tr : Int) (s : Nat) (L : List Nat) (z : Int × xR) {x : Int} (hx : x = lessI (fS z.2 (hasN z.2 s) 1 - fS z.2 (hasN z.2 s) 4) (tr - z.1)) (h0 : 0 ≤ x) : fuelL tr (s :: L) z = fuelL tr L (z.1 + x, fillR z.2 (hasN z.2 s) x) := by
  rw [fuelL_s, ← hx]
  by_cases h : 0 < x
  · rw [if_pos h]
  · have e : x = 0 := by omega
    rw [if_neg h, e, fillR_0, Int.add_zero]
theorem fuelL_mono (tr : Int) : ∀ (L : List Nat) (z : Int × xR), z.1 ≤ (fuelL tr L z).1
  | [], z => Int.le_refl _
  | s :: L, z => by
    rw [fuelL_s]
    split
    · rename_i h
      have ih := fuelL_mono tr L (z.1 + lessI (fS z.2 (hasN z.2 s) 1 - fS z.2 (hasN z.2 s) 4) (tr - z.1), fillR z.2 (hasN z.2 s) (lessI (fS z.2 (hasN z.2 s) 1 - fS z.2 (hasN z.2 s) 4) (tr - z.1)))
      dsimp only at ih
      omega
    · exact fuelL_mono tr L z
theorem fuelL_pos {tr : Int} {r : xR} {s : Nat} (ht : 0 < tr) : ∀ {L : List Nat}, s ∈ L → 0 < roomF r s → 0 < (fuelL tr L (0, r)).1
  | x :: L, hs, hr => by
    rw [fuelL_s]
    split
    · rename_i h
      refine Int.lt_of_lt_of_le ?_ (fuelL_mono tr L _)
      show 0 < 0 + lessI (fS r (hasN r x) 1 - fS r (hasN r x) 4) (tr - 0)
      rw [Int.zero_add]
      exact h
    · rename_i hn
      rcases List.mem_cons.mp hs with e | e
      · exfalso
        apply hn
        show 0 < lessI (fS r (hasN r x) 1 - fS r (hasN r x) 4) (tr - 0)
        rw [← e]
        unfold roomF at hr
        unfold lessI
        split <;> omega
      · exact fuelL_pos ht e hr
theorem fuelL_zero {tr : Int} {z : Int × xR} : ∀ {L : List Nat}, (∀ s, s ∈ L → ¬ 0 < lessI (fS z.2 (hasN z.2 s) 1 - fS z.2 (hasN z.2 s) 4) (tr - z.1)) → fuelL tr L z = z
  | [], _ => rfl
  | x :: L, h => by
    rw [fuelL_s, if_neg (h x List.mem_cons_self)]
    exact fuelL_zero (fun s hs => h s (List.mem_cons_of_mem _ hs))
theorem sumN_nn {f : Nat → Int} : ∀ n, (∀ q, q < n → 0 ≤ f q) → 0 ≤ sumN f n ∧ (sumN f n = 0 → ∀ q, q < n → f q = 0)
  | 0, _ => ⟨Int.le_refl 0, fun _ q hq => absurd hq (Nat.not_lt_zero q)⟩
  | n + 1, h => by
    obtain ⟨h1, h2⟩ := sumN_nn n (fun q hq => h q (by omega))
    have hn := h n (by omega)
    rw [sumN_s]
    refine ⟨by omega, fun e q hq => ?_⟩
    by_cases hqn : q = n
    · rw [hqn]
      omega
    · exact h2 (by omega) q (by omega)
theorem sumN_ne {f : Nat → Int} : ∀ n, sumN f n ≠ 0 → ∃ q, q < n ∧ f q ≠ 0
  | 0, h => absurd rfl h
  | n + 1, h => by
    rw [sumN_s] at h
    by_cases e : f n = 0
    · obtain ⟨q, h1, h2⟩ := sumN_ne (f := f) n (fun e2 => h (by rw [e2, e]; rfl))
      exact ⟨q, by omega, h2⟩
    · exact ⟨n, by omega, e⟩
theorem getD_mem {L : List Nat} {q : Nat} (h : q < L.length) : L.getD q 0 ∈ L := by
  have e : L.getD q 0 = L[q] := by simp [List.getD_eq_getElem?_getD, h]
  rw [e]
  exact List.getElem_mem h
theorem mem_getD {L : List Nat} {s : Nat} (h : s ∈ L) : ∃ q, q < L.length ∧ L.getD q 0 = s := by
  obtain ⟨q, hq, e⟩ := List.getElem_of_mem h
  exact ⟨q, hq, by simp [List.getD_eq_getElem?_getD, hq, e]⟩
def roomS (r : xR) (n : Nat) : Int := sumN (fun q => roomF r ((thirL r).getD q 0)) n
theorem roomS_s (r : xR) (n : Nat) : roomS r (n + 1) = roomS r n + roomF r ((thirL r).getD n 0) := rfl
theorem fuelF_no {r : xR} {w d : Int} (hV : Vb r w d) (h : lessI 300 (r 3) = 0 ∨ roomS r (thirL r).length = 0) : fuelF r = (-5, none) := by
  have hz : fuelL (lessI 300 (r 3)) (thirL r) (0, r) = (0, r) := fuelL_zero (fun s hs hp => by
    have hp2 : 0 < lessI (fS r (hasN r s) 1 - fS r (hasN r s) 4) (lessI 300 (r 3) - 0) := hp
    have hl := lessI_lim (fS r (hasN r s) 1 - fS r (hasN r s) 4) (lessI 300 (r 3) - 0)
    rcases h with h | h
    · omega
    · obtain ⟨q, hq, e⟩ := mem_getD hs
      have hnn : ∀ j, j < (thirL r).length → 0 ≤ roomF r ((thirL r).getD j 0) := fun j hj => by
        obtain ⟨g1, g2⟩ := thirL_in hj
        exact (roomF_rng hV g1 (hasB_iff.mp g2)).1
      have h0 : roomF r ((thirL r).getD q 0) = 0 := (sumN_nn _ hnn).2 h q hq
      rw [e] at h0
      unfold roomF at h0
      omega)
  unfold fuelF
  rw [hz]
  exact if_neg (Int.lt_irrefl 0)
theorem fuelF_pos {r : xR} {w d : Int} (hV : Vb r w d) (h1 : 0 < lessI 300 (r 3)) (h2 : roomS r (thirL r).length ≠ 0) : 0 < (fuelL (lessI 300 (r 3)) (thirL r) (0, r)).1 := by
  obtain ⟨q, hq, hne⟩ := sumN_ne _ h2
  obtain ⟨g1, g2⟩ := thirL_in hq
  have g := (roomF_rng hV g1 (hasB_iff.mp g2)).1
  have hne2 : roomF r ((thirL r).getD q 0) ≠ 0 := hne
  exact fuelL_pos h1 (getD_mem hq) (by omega)
set_option maxHeartbeats 1000000 in
set_option maxRecDepth 100000 in
theorem c_X6_fuelRun (l : Launch) (D : xD) (Bs sz : Nat) (kd : xKd) (rf : xRf) (M : xM) (y : Nat) (h : List xR) (sn : Option xR) (t : List Int) (hY : ShY kd rf y) (hW : Vr (M (y + 1))) (hM : MSt M y (M (y + 1)) h sn t) : CtI l D Bs yX6_fuelRun cX6_fuelRun 7 (some .int) 3 [.ref y] sz kd rf M (fun q M' => q = (fuelF (M (y + 1))).1 ∧ MSt M' y (actR (fuelF (M (y + 1))).2 (M (y + 1))) (actH (fuelF (M (y + 1))).2 (M (y + 1)) h) sn t ∧ Off M M' y 8) := by
  refine Ctr.of (yv_X6_fuelRun.1.2.2.2.2) (List.forall_mem_cons.mpr ⟨rfl, fun _ h => absurd h List.not_mem_nil⟩) (Nat.le_of_ble_eq_true rfl) [some (.ref y), none, none, none, none, none, none] rfl ?_
  intro p e s m args below meth c X hin
  have hV := hW.k
  obtain ⟨n6, n6b⟩ := hV.n6
  obtain ⟨n7, n7b⟩ := hV.n7
  obtain ⟨hv0, -, -, hv3, -, -⟩ := hV.1
  have hlen := thirL_len (r := (M (y + 1))) n7b
  have htr := lessI_lim 300 ((M (y + 1)) 3)
  have L82 : ∀ (k : Nat) (i : Nat) (lf : Int) (z : Int × xR) (M1 M0 M2 : xM), i + k = (thirL (M (y + 1))).length → fuelL (lessI 300 ((M (y + 1)) 3)) ((thirL (M (y + 1))).drop i) z = (fuelL (lessI 300 ((M (y + 1)) 3)) (thirL (M (y + 1))) (0, (M (y + 1)))) → Vk z.2 → nS z.2 = nS (M (y + 1)) → nC z.2 = nC (M (y + 1)) → (∀ u k, fC z.2 u k = fC (M (y + 1)) u k) → 0 ≤ z.1 ∧ z.1 ≤ lessI 300 ((M (y + 1)) 3) → z.2 3 = (M (y + 1)) 3 - z.1 → lf = lessI 300 ((M (y + 1)) 3) - z.1 → MSt M1 y (M (y + 1)) h sn t → Off M M1 y 8 → HiR M0 y ((M1 (y + 1) :: h).take 5) ∧ OfH M1 M0 y → M2 = ms M0 (y + 1) z.2 → (∀ q, q < (thirL (M (y + 1))).length → M0 (y + 5) q = (((thirL (M (y + 1))).getD q 0 : Nat) : Int)) → 0 < (fuelL (lessI 300 ((M (y + 1)) 3)) (thirL (M (y + 1))) (0, (M (y + 1)))).1 → G p l e (rmd 3) s m args below meth c D Bs 7 0 0 (MQ below (xQ D Bs (pI sz kd rf (fun q M' => q = (fuelF (M (y + 1))).1 ∧ MSt M' y (actR (fuelF (M (y + 1))).2 (M (y + 1))) (actH (fuelF (M (y + 1))).2 (M (y + 1)) h) sn t ∧ Off M M' y 8))) args s 0 0 (fun q => Bs ≤ q)) sz kd rf (M2) 82 [some (.ref y), some (vi ((thirL (M (y + 1))).length : Int)), none, some (vi (lessI 300 ((M (y + 1)) 3))), some (vi lf), some (vi (i : Int)), none] [] := by
    intro k
    induction k with
    | zero =>
      intro i lf z M1 M0 M2 hik hres hVz eS eC eF hz1 hz3 hlf hM1 hO1 hh0 hM2 hline hpos
      have hr2 : M2 (y + 1) = z.2 := by rw [hM2, ms_same]
      have hV2 : Vk (M2 (y + 1)) := by rw [hr2]; exact hVz
      obtain ⟨q6, q6b⟩ := hVz.n6
      refine G.iload X 84 dX6_fuelRun_82 rfl rfl ?_
      refine G.iload_n X 85 dX6_fuelRun_84 rfl rfl ?_
      refine G.icmp_ge X 140 88 dX6_fuelRun_85 (by decide) rfl (by omega) (by omega) (fun hc85 => ?_) (fun hc85 => ?_)
      · refine G.iload_n X 141 dX6_fuelRun_140 rfl rfl ?_
        refine G.iload X 143 dX6_fuelRun_141 rfl rfl ?_
        refine G.isub X 144 dX6_fuelRun_143 rfl ?_
        refine G.iret X dX6_fuelRun_144 ⟨Nat.le_refl _, Nat.le_refl _⟩ ⟨rfl, rfl, rfl, _, rfl, ?_⟩
        rw [List.drop_eq_nil_of_le (by omega)] at hres
        have hz : (fuelL (lessI 300 ((M (y + 1)) 3)) (thirL (M (y + 1))) (0, (M (y + 1)))) = z := hres.symm
        unfold fuelF
        rw [if_pos hpos, hz]
        obtain ⟨g1, g2⟩ := hM1.act hh0 z.2 hM2
        exact ⟨by omega, g1, hO1.trans g2⟩
      · exfalso; omega
    | succ k ih =>
      intro i lf z M1 M0 M2 hik hres hVz eS eC eF hz1 hz3 hlf hM1 hO1 hh0 hM2 hline hpos
      have hr2 : M2 (y + 1) = z.2 := by rw [hM2, ms_same]
      have hV2 : Vk (M2 (y + 1)) := by rw [hr2]; exact hVz
      obtain ⟨q6, q6b⟩ := hVz.n6
      have hil : i < (thirL (M (y + 1))).length := by omega
      obtain ⟨hji, hjo⟩ := thirL_in hil
      obtain ⟨j, hj⟩ : ∃ j, (thirL (M (y + 1))).getD i 0 = j := ⟨_, rfl⟩
      rw [hj] at hji hjo
      have hj4 := hasB_iff.mp hjo
      have hli : M2 (y + 5) i = (j : Int) := by rw [hM2, ms_ne (by omega), hline i hil, hj]
      have hq4 := eF j 4
      obtain ⟨hh, hhe⟩ := hasN_lt hVz (show j < nC z.2 by omega) (by omega)
      have hrr := roomF_rng hVz (show j < nC z.2 by omega) (by omega)
      unfold roomF at hrr
      have hxl := lessI_lim (fS z.2 (hasN z.2 j) 1 - fS z.2 (hasN z.2 j) 4) (lessI 300 ((M (y + 1)) 3) - z.1)
      refine G.iload X 84 dX6_fuelRun_82 rfl rfl ?_
      refine G.iload_n X 85 dX6_fuelRun_84 rfl rfl ?_
      refine G.icmp_ge X 140 88 dX6_fuelRun_85 (by decide) rfl (by omega) (by omega) (fun hc85 => ?_) (fun hc85 => ?_)
      · exfalso; omega
      · refine G.iload X 90 dX6_fuelRun_88 rfl rfl ?_
        refine G.aload_n X 91 dX6_fuelRun_90 rfl rfl ?_
        refine G.aload_n X 92 dX6_fuelRun_91 rfl rfl ?_
        refine G.aload_n X 93 dX6_fuelRun_92 rfl rfl ?_
        refine G.getR X fl_X6_22 96 dX6_fuelRun_93 rfl (hY).1 (ShY.r6 hY) ?_
        refine G.iload X 98 dX6_fuelRun_96 rfl rfl ?_
        refine G.iald X (i := i) 99 dX6_fuelRun_98 rfl ((ShY.a6 hY)).1 (((ShY.a6 hY)).2 _) rfl (by omega) (by decide) ?_
        rw [hli]
        refine G.vI1 (d := 1) X ml_X6_81 yv_X6_setAt 102 dX6_fuelRun_99 rfl (c_X6_setAt l D Bs _ kd rf _ y j hY (by omega)) ⟨_, _, (hY).1, rfl, rfl⟩ (by decide) ⟨Nat.zero_le _, Nat.zero_le _⟩ (Nat.le_of_ble_eq_true rfl) (fun r99 M99 h99 => ?_)
        obtain ⟨hr99, hm99⟩ := h99
        rw [hr2] at hr99
        obtain rfl : r99 = (hasN z.2 j : Int) := by omega
        obtain rfl := hm99.symm
        refine G.vI1 (d := 1) X ml_X6_56 yv_X6_roomIn 105 dX6_fuelRun_102 rfl (c_X6_roomIn l D Bs _ kd rf _ y (hasN z.2 j) hY (by omega)) ⟨_, _, (hY).1, rfl, rfl⟩ (by decide) ⟨Nat.zero_le _, Nat.zero_le _⟩ (Nat.le_of_ble_eq_true rfl) (fun r102 M102 h102 => ?_)
        obtain ⟨hr102, hm102⟩ := h102
        rw [hr2] at hr102
        subst hr102
        obtain rfl := hm102.symm
        refine G.sI2 (d := 0) X ml_X6_60 ys_X6_least 108 dX6_fuelRun_105 rfl (c_X6_least l D Bs _ kd rf _ _ _ (by omega) (by omega)) (by decide) ⟨Nat.zero_le _, Nat.zero_le _⟩ (Nat.le_of_ble_eq_true rfl) (fun r105 M105 h105 => ?_)
        obtain ⟨hr105, hm105⟩ := h105
        rw [hlf] at hr105
        obtain rfl := hm105.symm
        refine G.istore (ls' := [_, _, _, _, _, _, _]) X 110 dX6_fuelRun_108 rfl (by decide) rfl ?_
        refine G.aload_n X 111 dX6_fuelRun_110 rfl rfl ?_
        refine G.aload_n X 112 dX6_fuelRun_111 rfl rfl ?_
        refine G.aload_n X 113 dX6_fuelRun_112 rfl rfl ?_
        refine G.getR X fl_X6_22 116 dX6_fuelRun_113 rfl (hY).1 (ShY.r6 hY) ?_
        refine G.iload X 118 dX6_fuelRun_116 rfl rfl ?_
        refine G.iald X (i := i) 119 dX6_fuelRun_118 rfl ((ShY.a6 hY)).1 (((ShY.a6 hY)).2 _) rfl (by omega) (by decide) ?_
        rw [hli]
        refine G.vI1 (d := 1) X ml_X6_81 yv_X6_setAt 122 dX6_fuelRun_119 rfl (c_X6_setAt l D Bs _ kd rf _ y j hY (by omega)) ⟨_, _, (hY).1, rfl, rfl⟩ (by decide) ⟨Nat.zero_le _, Nat.zero_le _⟩ (Nat.le_of_ble_eq_true rfl) (fun r119 M119 h119 => ?_)
        obtain ⟨hr119, hm119⟩ := h119
        rw [hr2] at hr119
        obtain rfl : r119 = (hasN z.2 j : Int) := by omega
        obtain rfl := hm119.symm
        refine G.iload X 124 dX6_fuelRun_122 rfl rfl ?_
        refine G.vV2 (d := 1) X ml_X6_63 yv_X6_fills 127 dX6_fuelRun_124 rfl (c_X6_fills l D Bs _ kd rf _ y (hasN z.2 j) _ hY (by omega)) ⟨_, _, (hY).1, rfl, rfl⟩ (by decide) ⟨Nat.zero_le _, Nat.zero_le _⟩ (Nat.le_of_ble_eq_true rfl) (fun M124 h124 => ?_)
        rw [hr2] at h124
        refine G.iload X 129 dX6_fuelRun_127 rfl rfl ?_
        refine G.iload X 131 dX6_fuelRun_129 rfl rfl ?_
        refine G.isub X 132 dX6_fuelRun_131 rfl ?_
        refine G.istore (ls' := [_, _, _, _, _, _, _]) X 134 dX6_fuelRun_132 rfl (by decide) rfl ?_
        refine G.iinc (ls' := [_, _, _, _, _, _, _]) X 137 dX6_fuelRun_134 rfl rfl (by decide) rfl ?_
        refine G.goto X 82 dX6_fuelRun_137 (by decide) ?_
        refine G.drop 6 ?_
        obtain ⟨fn6, fn7, fn3⟩ := fillR_n (r := z.2) (u := hasN z.2 j) (x := r105)
        refine ih (i + 1) _ (z.1 + r105, fillR z.2 (hasN z.2 j) r105) M1 M0 M124 (by omega) ?_ (Vb.fill hVz hh (by omega) (by omega)) (fn6.trans eS) (fn7.trans eC) (fun u k => ?_) (by dsimp only; omega) (by dsimp only; omega) (by dsimp only; omega) hM1 hO1 hh0 (h124.trans (by rw [hM2, ms_ms])) hline hpos
        · rw [← hres, drop_s hil, hj]
          exact (fuelL_t _ _ _ z hr105 (by omega)).symm
        · show fC (fillR z.2 (hasN z.2 j) r105) u k = _
          unfold fillR
          rw [fC_fu0 (by decide), fC_fuS (by omega) (by decide)]
          exact eF u k
  have L4 : ∀ (k : Nat) (i : Nat) (w : Int) (M1 : xM), i + k = (thirL (M (y + 1))).length → (∀ a, a ≠ y + 5 → M1 a = M a) → (∀ q, q < i → M1 (y + 5) q = (((thirL (M (y + 1))).getD q 0 : Nat) : Int)) → w = roomS (M (y + 1)) i → 0 ≤ w ∧ w ≤ 500 * i → G p l e (rmd 3) s m args below meth c D Bs 7 0 0 (MQ below (xQ D Bs (pI sz kd rf (fun q M' => q = (fuelF (M (y + 1))).1 ∧ MSt M' y (actR (fuelF (M (y + 1))).2 (M (y + 1))) (actH (fuelF (M (y + 1))).2 (M (y + 1)) h) sn t ∧ Off M M' y 8))) args s 0 0 (fun q => Bs ≤ q)) sz kd rf (M1) 4 [some (.ref y), some (vi (i : Int)), some (vi w), none, none, none, none] [] := by
    intro k
    induction k with
    | zero =>
      intro i w M1 hik hA hB hw hwr
      have e1 : M1 (y + 1) = M (y + 1) := hA _ (by omega)
      have hV1 : Vk (M1 (y + 1)) := by rw [e1]; exact hV
      obtain rfl : i = (thirL (M (y + 1))).length := by omega
      refine G.aload_n X 5 dX6_fuelRun_4 rfl rfl ?_
      refine G.iload_n X 6 dX6_fuelRun_5 rfl rfl ?_
      refine G.vI1 (d := 2) X ml_X6_122 yv_X6_thirstyAt 9 dX6_fuelRun_6 rfl (c_X6_thirstyAt l D Bs _ kd rf _ y _ hY hV1 (by omega)) ⟨_, _, (hY).1, rfl, rfl⟩ (by decide) ⟨Nat.zero_le _, Nat.zero_le _⟩ (Nat.le_of_ble_eq_true rfl) (fun r6 M6 h6 => ?_)
      obtain ⟨hr6, hm6⟩ := h6
      rw [e1, nthN_out (Nat.le_refl _)] at hr6
      subst hr6
      obtain rfl := hm6.symm
      have hM1 : MSt M1 y (M (y + 1)) h sn t := by
        have ey : M1 y = M y := hA y (by omega)
        have e6 : M1 (y + 6) = M (y + 6) := hA _ (by omega)
        refine hM.off e1 (hA _ (by omega)) (hA _ (by omega)) (by rw [ey]) (by rw [ey]) ?_
        unfold TxM
        rw [ey, e6]
        exact hM.2.2.2.2
      have hO1 : Off M M1 y 8 := fun a ha => hA a (by omega)
      refine G.bipush X 11 dX6_fuelRun_9 rfl (by decide) ?_
      refine G.icmp_eq X 48 14 dX6_fuelRun_11 (by decide) rfl (by omega) (by omega) (fun hc11 => ?_) (fun hc11 => ?_)
      · refine G.sipush X 51 dX6_fuelRun_48 rfl (by decide) ?_
        refine G.aload_n X 52 dX6_fuelRun_51 rfl rfl ?_
        refine G.getR X fl_X6_7 55 dX6_fuelRun_52 rfl (hY).1 (ShY.r0 hY) ?_
        refine G.iconst X 56 dX6_fuelRun_55 rfl ?_
        refine G.iald X (i := 3) 57 dX6_fuelRun_56 rfl ((ShY.a0 hY)).1 (((ShY.a0 hY)).2 _) rfl (by omega) (by decide) ?_
        rw [e1]
        refine G.sI2 (d := 0) X ml_X6_60 ys_X6_least 60 dX6_fuelRun_57 rfl (c_X6_least l D Bs _ kd rf _ _ _ (by omega) (by omega)) (by decide) ⟨Nat.zero_le _, Nat.zero_le _⟩ (Nat.le_of_ble_eq_true rfl) (fun r57 M57 h57 => ?_)
        obtain ⟨hr57, hm57⟩ := h57
        rw [lessI_comm] at hr57
        subst hr57
        obtain rfl := hm57.symm
        refine G.istore_n (ls' := [_, _, _, _, _, _, _]) X 61 dX6_fuelRun_60 rfl (by decide) rfl ?_
        refine G.iload_n X 62 dX6_fuelRun_61 rfl rfl ?_
        refine G.if_eq X 69 65 dX6_fuelRun_62 (by decide) rfl (by omega) (fun hc62 => ?_) (fun hc62 => ?_)
        · refine G.bipush X 71 dX6_fuelRun_69 rfl (by decide) ?_
          refine G.iret X dX6_fuelRun_71 ⟨Nat.le_refl _, Nat.le_refl _⟩ ⟨rfl, rfl, rfl, _, rfl, ?_⟩
          rw [fuelF_no hV (by omega)]
          exact ⟨rfl, hM1, hO1⟩
        · refine G.iload_n X 66 dX6_fuelRun_65 rfl rfl ?_
          refine G.if_ne X 72 69 dX6_fuelRun_66 (by decide) rfl (by omega) (fun hc66 => ?_) (fun hc66 => ?_)
          · refine G.aload_n X 73 dX6_fuelRun_72 rfl rfl ?_
            refine G.vV0 (d := 0) X ml_X6_41 yv_X6_record 76 dX6_fuelRun_73 rfl (c_X6_record l D Bs _ kd rf _ y h hY hM1.2.1) ⟨_, _, (hY).1, rfl, rfl⟩ (by decide) ⟨Nat.zero_le _, Nat.zero_le _⟩ (Nat.le_of_ble_eq_true rfl) (fun M73 h73 => ?_)
            refine G.iload_n X 77 dX6_fuelRun_76 rfl rfl ?_
            refine G.istore (ls' := [_, _, _, _, _, _, _]) X 79 dX6_fuelRun_77 rfl (by decide) rfl ?_
            refine G.iconst X 80 dX6_fuelRun_79 rfl ?_
            refine G.istore (ls' := [_, _, _, _, _, _, _]) X 82 dX6_fuelRun_80 rfl (by decide) rfl ?_
            refine G.drop 2 ?_
            refine L82 (thirL (M (y + 1))).length 0 (lessI 300 ((M (y + 1)) 3)) (0, (M (y + 1))) M1 M73 M73 (Nat.zero_add _) rfl hV rfl rfl (fun _ _ => rfl) (by dsimp only; omega) (by dsimp only; omega) (by dsimp only; omega) hM1 hO1 h73 ?_ (fun q hq => ?_) (fuelF_pos hV (by omega) (by omega))
            · show M73 = ms M73 (y + 1) (M (y + 1))
              rw [← e1, ← h73.2.1 _ (by omega) (by omega), ms_self]
            · rw [h73.2.1 _ (by omega) (by omega)]
              exact hB q hq
          · refine G.bipush X 71 dX6_fuelRun_69 rfl (by decide) ?_
            refine G.iret X dX6_fuelRun_71 ⟨Nat.le_refl _, Nat.le_refl _⟩ ⟨rfl, rfl, rfl, _, rfl, ?_⟩
            rw [fuelF_no hV (by omega)]
            exact ⟨rfl, hM1, hO1⟩
      · exact absurd rfl hc11
    | succ k ih =>
      intro i w M1 hik hA hB hw hwr
      have e1 : M1 (y + 1) = M (y + 1) := hA _ (by omega)
      have hV1 : Vk (M1 (y + 1)) := by rw [e1]; exact hV
      have hil : i < (thirL (M (y + 1))).length := by omega
      obtain ⟨hji, hjo⟩ := thirL_in hil
      obtain ⟨j, hj⟩ : ∃ j, (thirL (M (y + 1))).getD i 0 = j := ⟨_, rfl⟩
      rw [hj] at hji hjo
      have hj4 := hasB_iff.mp hjo
      have hn : nthN (thirL (M (y + 1))) (i : Int) = (j : Int) := by rw [nthN_in hil, hj]
      obtain ⟨hh, hhe⟩ := hasN_lt hV hji hj4
      have hrr := roomF_rng hV hji hj4
      unfold roomF at hrr
      refine G.aload_n X 5 dX6_fuelRun_4 rfl rfl ?_
      refine G.iload_n X 6 dX6_fuelRun_5 rfl rfl ?_
      refine G.vI1 (d := 2) X ml_X6_122 yv_X6_thirstyAt 9 dX6_fuelRun_6 rfl (c_X6_thirstyAt l D Bs _ kd rf _ y _ hY hV1 (by omega)) ⟨_, _, (hY).1, rfl, rfl⟩ (by decide) ⟨Nat.zero_le _, Nat.zero_le _⟩ (Nat.le_of_ble_eq_true rfl) (fun r6 M6 h6 => ?_)
      obtain ⟨hr6, hm6⟩ := h6
      rw [e1, hn] at hr6
      subst hr6
      obtain rfl := hm6.symm
      refine G.bipush X 11 dX6_fuelRun_9 rfl (by decide) ?_
      refine G.icmp_eq X 48 14 dX6_fuelRun_11 (by decide) rfl (by omega) (by omega) (fun hc11 => ?_) (fun hc11 => ?_)
      · exfalso; omega
      · refine G.aload_n X 15 dX6_fuelRun_14 rfl rfl ?_
        refine G.getR X fl_X6_22 18 dX6_fuelRun_15 rfl (hY).1 (ShY.r6 hY) ?_
        refine G.iload_n X 19 dX6_fuelRun_18 rfl rfl ?_
        refine G.aload_n X 20 dX6_fuelRun_19 rfl rfl ?_
        refine G.iload_n X 21 dX6_fuelRun_20 rfl rfl ?_
        refine G.vI1 (d := 2) X ml_X6_122 yv_X6_thirstyAt 24 dX6_fuelRun_21 rfl (c_X6_thirstyAt l D Bs _ kd rf _ y _ hY hV1 (by omega)) ⟨_, _, (hY).1, rfl, rfl⟩ (by decide) ⟨Nat.zero_le _, Nat.zero_le _⟩ (Nat.le_of_ble_eq_true rfl) (fun r21 M21 h21 => ?_)
        obtain ⟨hr21, hm21⟩ := h21
        rw [e1, hn] at hr21
        subst hr21
        obtain rfl := hm21.symm
        refine G.iast X (i := i) 25 dX6_fuelRun_24 rfl ((ShY.a6 hY)).1 (((ShY.a6 hY)).2 _) rfl (by omega) (by decide) ?_
        have e24 : mu M1 (y + 5) i (j : Int) (y + 1) = M (y + 1) := (ms_ne (by omega)).trans e1
        refine G.iload_n X 26 dX6_fuelRun_25 rfl rfl ?_
        refine G.aload_n X 27 dX6_fuelRun_26 rfl rfl ?_
        refine G.aload_n X 28 dX6_fuelRun_27 rfl rfl ?_
        refine G.aload_n X 29 dX6_fuelRun_28 rfl rfl ?_
        refine G.getR X fl_X6_22 32 dX6_fuelRun_29 rfl (hY).1 (ShY.r6 hY) ?_
        refine G.iload_n X 33 dX6_fuelRun_32 rfl rfl ?_
        refine G.iald X (i := i) 34 dX6_fuelRun_33 rfl ((ShY.a6 hY)).1 (((ShY.a6 hY)).2 _) rfl (by omega) (by decide) ?_
        rw [mu_same]
        refine G.vI1 (d := 1) X ml_X6_81 yv_X6_setAt 37 dX6_fuelRun_34 rfl (c_X6_setAt l D Bs _ kd rf _ y j hY (by omega)) ⟨_, _, (hY).1, rfl, rfl⟩ (by decide) ⟨Nat.zero_le _, Nat.zero_le _⟩ (Nat.le_of_ble_eq_true rfl) (fun r34 M34 h34 => ?_)
        obtain ⟨hr34, hm34⟩ := h34
        rw [e24] at hr34
        obtain rfl : r34 = (hasN (M (y + 1)) j : Int) := by omega
        obtain rfl := hm34.symm
        refine G.vI1 (d := 1) X ml_X6_56 yv_X6_roomIn 40 dX6_fuelRun_37 rfl (c_X6_roomIn l D Bs _ kd rf _ y (hasN (M (y + 1)) j) hY (by omega)) ⟨_, _, (hY).1, rfl, rfl⟩ (by decide) ⟨Nat.zero_le _, Nat.zero_le _⟩ (Nat.le_of_ble_eq_true rfl) (fun r37 M37 h37 => ?_)
        obtain ⟨hr37, hm37⟩ := h37
        rw [e24] at hr37
        subst hr37
        obtain rfl := hm37.symm
        refine G.iadd X 41 dX6_fuelRun_40 rfl ?_
        refine G.istore_n (ls' := [_, _, _, _, _, _, _]) X 42 dX6_fuelRun_41 rfl (by decide) rfl ?_
        refine G.iinc (ls' := [_, _, _, _, _, _, _]) X 45 dX6_fuelRun_42 rfl rfl (by decide) rfl ?_
        refine G.goto X 4 dX6_fuelRun_45 (by decide) ?_
        refine ih (i + 1) _ _ (by omega) (fun a ha => (ms_ne ha).trans (hA a ha)) (fun q hq => ?_) ?_ (by omega)
        · by_cases e : q = i
          · subst e
            rw [mu_same, hj]
          · rw [mu_ne (Or.inr e)]
            exact hB q (by omega)
        · rw [roomS_s, ← hw, hj]
  refine G.iconst X 1 dX6_fuelRun_0 rfl ?_
  refine G.istore_n (ls' := [_, _, _, _, _, _, _]) X 2 dX6_fuelRun_1 rfl (by decide) rfl ?_
  refine G.iconst X 3 dX6_fuelRun_2 rfl ?_
  refine G.istore_n (ls' := [_, _, _, _, _, _, _]) X 4 dX6_fuelRun_3 rfl (by decide) rfl ?_
  exact L4 (thirL (M (y + 1))).length 0 0 M (Nat.zero_add _) (fun _ _ => rfl) (fun q hq => absurd hq (Nat.not_lt_zero q)) rfl (by omega)
