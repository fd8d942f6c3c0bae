theorem giveL_mono : ∀ (L : List Nat) (z : Int × xR), z.1 ≤ (giveL L z).1
  | [], z => Int.le_refl _
  | s :: L, z => by
    rw [giveL_s]
    split
    · have h := giveL_mono L (z.1 + 1, comeR z.2 (yardF z.2 s (nS z.2)).toNat s)
      dsimp only at h
      omega
    · exact giveL_mono L z
theorem giveL_pos {r : xR} {s : Nat} : ∀ {L : List Nat}, s ∈ L → fC r s 4 = 0 → yardF r s (nS r) ≠ -5 → 0 < (giveL L (0, r)).1
  | x :: L, hs, h4, hy => by
    rw [giveL_s]
    split
    · have h := giveL_mono L (0 + 1, comeR r (yardF r x (nS r)).toNat x)
      dsimp only at h ⊢
      omega
    · rename_i hn
      rcases List.mem_cons.mp hs with e | e
      · exact absurd ⟨by rw [← e]; exact h4, by rw [← e]; exact hy⟩ hn
      · exact giveL_pos e h4 hy
theorem giveL_zero {z : Int × xR} : ∀ {L : List Nat}, (∀ s, s ∈ L → ¬ (fC z.2 s 4 = 0 ∧ yardF z.2 s (nS z.2) ≠ -5)) → giveL L z = z
  | [], _ => rfl
  | x :: L, h => by
    rw [giveL_s, if_neg (h x List.mem_cons_self)]
    exact giveL_zero (fun s hs => h s (List.mem_cons_of_mem _ hs))
theorem sortK_congr {key key' : Nat → Int} {P P' : Nat → Bool} : ∀ n, (∀ i, i < n → key' i = key i) → (∀ i, i < n → P' i = P i) → sortK key' P' n = sortK key P n
  | 0, _, _ => rfl
  | n + 1, hk, hP => by
    have ih := sortK_congr n (fun i hi => hk i (by omega)) (fun i hi => hP i (by omega))
    rw [sortK_s, sortK_s, hP n (by omega), ih]
    split
    · have hin : ∀ L : List Nat, (∀ x, x ∈ L → x < n) → insK key' n L = insK key n L := by
        intro L
        induction L with
        | nil => intro _; rfl
        | cons a t iht =>
          intro hL
          unfold insK
          rw [hk a (by have := hL a List.mem_cons_self; omega), hk n (by omega), iht (fun x hx => hL x (List.mem_cons_of_mem _ hx))]
      exact hin _ (fun x hx => (sortK_mem.mp hx).1)
    · rfl
theorem needL_come {r : xR} {u j : Nat} (hu : u < 10) : needL (comeR r u j) = needL r := by
  unfold needL
  rw [nC_of (r := r) (comeR_0 (by decide))]
  refine sortK_congr _ (fun i hi => ?_) (fun i hi => ?_)
  · unfold nk
    rw [comeR_C hu (by decide), comeR_C hu (by decide), if_neg (by omega), if_neg (by omega)]
  · unfold openB
    rw [comeR_C hu (by decide), comeR_C hu (by decide), if_neg (by omega), if_neg (by omega), comeR_0 (by decide)]
set_option maxHeartbeats 1000000 in
set_option maxRecDepth 100000 in
theorem c_X6_giveOut (l : Launch) (D : xD) (Bs sz : Nat) (kd : xKd) (rf : xRf) (M : xM) (y : Nat) (h : List xR) (sn : Option xR) (t : List Int) (hY : ShY kd rf y) (hW : Vr (M (y + 1))) (hM : MSt M y (M (y + 1)) h sn t) : CtI l D Bs yX6_giveOut cX6_giveOut 6 (some .int) 3 [.ref y] sz kd rf M (fun q M' => q = (giveF (M (y + 1))).1 ∧ MSt M' y (actR (giveF (M (y + 1))).2 (M (y + 1))) (actH (giveF (M (y + 1))).2 (M (y + 1)) h) sn t ∧ Off M M' y 8) := by
  refine Ctr.of (yv_X6_giveOut.1.2.2.2.2) (List.forall_mem_cons.mpr ⟨rfl, fun _ h => absurd h List.not_mem_nil⟩) (Nat.le_of_ble_eq_true rfl) [some (.ref y), none, none, none, none, none] rfl ?_
  intro p e s m args below meth c X hin
  have hV := hW.k
  obtain ⟨n6, n6b⟩ := hV.n6
  obtain ⟨n7, n7b⟩ := hV.n7
  have hlen : (needL (M (y + 1))).length ≤ 12 := by
    unfold needL
    have h1 := sortK_len (nk (M (y + 1))) (openB (M (y + 1))) (nC (M (y + 1)))
    have h2 := cntN_le (openB (M (y + 1))) (nC (M (y + 1)))
    omega
  obtain ⟨hv0, -, -, -, -, -⟩ := hV.1
  have L79 : ∀ (k : Nat) (i : Nat) (z : Int × xR) (M0 M1 : xM), i + k = (needL (M (y + 1))).length → giveL ((needL (M (y + 1))).drop i) z = giveL (needL (M (y + 1))) (0, (M (y + 1))) → Vk z.2 → needL z.2 = (needL (M (y + 1))) → nS z.2 = nS (M (y + 1)) → nC z.2 = nC (M (y + 1)) → HiR M0 y (((M (y + 1)) :: h).take 5) ∧ OfH M M0 y → M1 = ms M0 (y + 1) z.2 → 0 < (giveL (needL (M (y + 1))) (0, (M (y + 1)))).1 → G p l e (rmd 3) s m args below meth c D Bs 6 0 0 (MQ below (xQ D Bs (pI sz kd rf (fun q M' => q = (giveF (M (y + 1))).1 ∧ MSt M' y (actR (giveF (M (y + 1))).2 (M (y + 1))) (actH (giveF (M (y + 1))).2 (M (y + 1)) h) sn t ∧ Off M M' y 8))) args s 0 0 (fun q => Bs ≤ q)) sz kd rf (M1) 79 [some (.ref y), none, some (vi z.1), some (vi (i : Int)), some (vi (nthN (needL (M (y + 1))) (i : Int))), none] [] := by
    intro k
    induction k with
    | zero =>
      intro i z M0 M1 hik hres hVz hLz hNSz hNCz hh0 hM1 hpos
      have hr1 : M1 (y + 1) = z.2 := by rw [hM1, ms_same]
      have hVi : Vk (M1 (y + 1)) := by rw [hr1]; exact hVz
      rw [nthN_out (show (needL (M (y + 1))).length ≤ i by omega)]
      rw [List.drop_of_length_le (show (needL (M (y + 1))).length ≤ i by omega)] at hres
      refine G.iload X 81 dX6_giveOut_79 rfl rfl ?_
      refine G.bipush X 83 dX6_giveOut_81 rfl (by decide) ?_
      refine G.icmp_eq X 139 86 dX6_giveOut_83 (by decide) rfl (by omega) (by omega) (fun hc83 => ?_) (fun hc83 => ?_)
      · refine G.iload_n X 140 dX6_giveOut_139 rfl rfl ?_
        refine G.iret X dX6_giveOut_140 ⟨Nat.le_refl _, Nat.le_refl _⟩ ⟨rfl, rfl, rfl, _, rfl, ?_⟩
        unfold giveF
        rw [if_pos hpos, ← hres]
        exact ⟨rfl, hM.act hh0 z.2 hM1⟩
      · exact absurd rfl hc83
    | succ k ih =>
      intro i z M0 M1 hik hres hVz hLz hNSz hNCz hh0 hM1 hpos
      have hr1 : M1 (y + 1) = z.2 := by rw [hM1, ms_same]
      have hVi : Vk (M1 (y + 1)) := by rw [hr1]; exact hVz
      have hil : i < (needL (M (y + 1))).length := by omega
      obtain ⟨hji, hjo⟩ := needL_in hil
      obtain ⟨j, hj⟩ : ∃ j, (needL (M (y + 1))).getD i 0 = j := ⟨_, rfl⟩
      have hn : nthN (needL (M (y + 1))) (i : Int) = (j : Int) := by rw [nthN_in hil, hj]
      rw [hn]
      rw [hj] at hji hjo
      obtain ⟨-, -, -, -, w4, -, -⟩ := hVz.2.2 j (by omega)
      have hyl := yardF_lim z.2 j (nS z.2)
      have hn6 := hVz.n6
      refine G.iload X 81 dX6_giveOut_79 rfl rfl ?_
      refine G.bipush X 83 dX6_giveOut_81 rfl (by decide) ?_
      refine G.icmp_eq X 139 86 dX6_giveOut_83 (by decide) rfl (by omega) (by omega) (fun hc83 => ?_) (fun hc83 => ?_)
      · exfalso; omega
      · refine G.aload_n X 87 dX6_giveOut_86 rfl rfl ?_
        refine G.iload X 89 dX6_giveOut_87 rfl rfl ?_
        refine G.vI1 (d := 2) X ml_X6_107 yv_X6_wants 92 dX6_giveOut_89 rfl (c_X6_wants l D Bs _ kd rf _ y j hY hVi (by rw [hr1]; omega)) ⟨_, _, (hY).1, rfl, rfl⟩ (by decide) ⟨Nat.zero_le _, Nat.zero_le _⟩ (Nat.le_of_ble_eq_true rfl) (fun r89 M89 h89 => ?_)
        obtain ⟨hr89, hm89⟩ := h89
        rw [hr1] at hr89
        subst hr89
        obtain rfl := hm89.symm
        refine G.ifb_eq X 104 95 dX6_giveOut_92 (by decide) rfl (fun hc92 => ?_) (fun hc92 => ?_)
        · refine G.bipush X 106 dX6_giveOut_104 rfl (by decide) ?_
          refine G.istore (ls' := [_, _, _, _, _, _]) X 108 dX6_giveOut_106 rfl (by decide) rfl ?_
          refine G.iload X 110 dX6_giveOut_108 rfl rfl ?_
          refine G.bipush X 112 dX6_giveOut_110 rfl (by decide) ?_
          refine G.icmp_eq X 126 115 dX6_giveOut_112 (by decide) rfl (by omega) (by omega) (fun hc112 => ?_) (fun hc112 => ?_)
          · refine G.iinc (ls' := [_, _, _, _, _, _]) X 129 dX6_giveOut_126 rfl rfl (by decide) rfl ?_
            refine G.aload_n X 130 dX6_giveOut_129 rfl rfl ?_
            refine G.iload_n X 131 dX6_giveOut_130 rfl rfl ?_
            refine G.vI1 (d := 2) X ml_X6_113 yv_X6_needyAt 134 dX6_giveOut_131 rfl (c_X6_needyAt l D Bs _ kd rf _ y _ hY (by first | (rw [h120, ms_same]; exact hVc) | exact hVi) (by omega)) ⟨_, _, (hY).1, rfl, rfl⟩ (by decide) ⟨Nat.zero_le _, Nat.zero_le _⟩ (Nat.le_of_ble_eq_true rfl) (fun r131 M131 h131 => ?_)
            obtain ⟨hr131, hm131⟩ := h131
            have hq131 : r131 = nthN (needL (M (y + 1))) ((i + 1 : Nat) : Int) := by
              first
              | (rw [hr131, h120, ms_same, hLc]; try rfl)
              | (rw [hr131, hr1, hLz]; try rfl)
            clear hr131
            subst hq131
            obtain rfl := hm131.symm
            refine G.istore (ls' := [_, _, _, _, _, _]) X 136 dX6_giveOut_134 rfl (by decide) rfl ?_
            refine G.goto X 79 dX6_giveOut_136 (by decide) ?_
            refine G.drop 5 ?_
            first
              | (refine ih (i + 1) (z.1 + 1, comeR z.2 u j) M0 _ (by omega) ?_ hVc hLc ((nS_of (r := z.2) (comeR_0 (by decide))).trans hNSz) ((nC_of (r := z.2) (comeR_0 (by decide))).trans hNCz) hh0 (h120.trans (by rw [hM1, ms_ms])) hpos
                 rw [← hres, drop_s hil, hj, giveL_s, if_pos ⟨by omega, by omega⟩, hu]
                 rfl)
              | (refine ih (i + 1) z M0 _ (by omega) ?_ hVz hLz hNSz hNCz hh0 hM1 hpos
                 rw [← hres, drop_s hil, hj, giveL_s, if_neg (by omega)])
          · exact absurd hc112 (by decide)
        · refine G.aload_n X 96 dX6_giveOut_95 rfl rfl ?_
          refine G.iload X 98 dX6_giveOut_96 rfl rfl ?_
          refine G.vI1 (d := 2) X ml_X6_110 yv_X6_yardFor 101 dX6_giveOut_98 rfl (c_X6_yardFor l D Bs _ kd rf _ y j hY hVi (by rw [hr1]; omega)) ⟨_, _, (hY).1, rfl, rfl⟩ (by decide) ⟨Nat.zero_le _, Nat.zero_le _⟩ (Nat.le_of_ble_eq_true rfl) (fun r98 M98 h98 => ?_)
          obtain ⟨hr98, hm98⟩ := h98
          rw [hr1] at hr98
          subst hr98
          obtain rfl := hm98.symm
          refine G.goto X 106 dX6_giveOut_101 (by decide) ?_
          refine G.istore (ls' := [_, _, _, _, _, _]) X 108 dX6_giveOut_106 rfl (by decide) rfl ?_
          refine G.iload X 110 dX6_giveOut_108 rfl rfl ?_
          refine G.bipush X 112 dX6_giveOut_110 rfl (by decide) ?_
          refine G.icmp_eq X 126 115 dX6_giveOut_112 (by decide) rfl (by omega) (by omega) (fun hc112 => ?_) (fun hc112 => ?_)
          · refine G.iinc (ls' := [_, _, _, _, _, _]) X 129 dX6_giveOut_126 rfl rfl (by decide) rfl ?_
            refine G.aload_n X 130 dX6_giveOut_129 rfl rfl ?_
            refine G.iload_n X 131 dX6_giveOut_130 rfl rfl ?_
            refine G.vI1 (d := 2) X ml_X6_113 yv_X6_needyAt 134 dX6_giveOut_131 rfl (c_X6_needyAt l D Bs _ kd rf _ y _ hY (by first | (rw [h120, ms_same]; exact hVc) | exact hVi) (by omega)) ⟨_, _, (hY).1, rfl, rfl⟩ (by decide) ⟨Nat.zero_le _, Nat.zero_le _⟩ (Nat.le_of_ble_eq_true rfl) (fun r131 M131 h131 => ?_)
            obtain ⟨hr131, hm131⟩ := h131
            have hq131 : r131 = nthN (needL (M (y + 1))) ((i + 1 : Nat) : Int) := by
              first
              | (rw [hr131, h120, ms_same, hLc]; try rfl)
              | (rw [hr131, hr1, hLz]; try rfl)
            clear hr131
            subst hq131
            obtain rfl := hm131.symm
            refine G.istore (ls' := [_, _, _, _, _, _]) X 136 dX6_giveOut_134 rfl (by decide) rfl ?_
            refine G.goto X 79 dX6_giveOut_136 (by decide) ?_
            refine G.drop 5 ?_
            first
              | (refine ih (i + 1) (z.1 + 1, comeR z.2 u j) M0 _ (by omega) ?_ hVc hLc ((nS_of (r := z.2) (comeR_0 (by decide))).trans hNSz) ((nC_of (r := z.2) (comeR_0 (by decide))).trans hNCz) hh0 (h120.trans (by rw [hM1, ms_ms])) hpos
                 rw [← hres, drop_s hil, hj, giveL_s, if_pos ⟨by omega, by omega⟩, hu]
                 rfl)
              | (refine ih (i + 1) z M0 _ (by omega) ?_ hVz hLz hNSz hNCz hh0 hM1 hpos
                 rw [← hres, drop_s hil, hj, giveL_s, if_neg (by omega)])
          · obtain ⟨u, hu, hui, -⟩ := yardF_get (r := z.2) (s := j) (n := nS z.2) (by omega)
            rw [hu]
            refine G.aload_n X 116 dX6_giveOut_115 rfl rfl ?_
            refine G.iload X 118 dX6_giveOut_116 rfl rfl ?_
            refine G.iload X 120 dX6_giveOut_118 rfl rfl ?_
            refine G.vV2 (d := 1) X ml_X6_90 yv_X6_comes 123 dX6_giveOut_120 rfl (c_X6_comes l D Bs _ kd rf _ y u j hY (by omega) (by omega)) ⟨_, _, (hY).1, rfl, rfl⟩ (by decide) ⟨Nat.zero_le _, Nat.zero_le _⟩ (Nat.le_of_ble_eq_true rfl) (fun M120 h120 => ?_)
            rw [hr1] at h120
            have hVc : Vk (comeR z.2 u j) := hVz.come (by decide) (by omega) (by omega)
            have hLc : needL (comeR z.2 u j) = (needL (M (y + 1))) := by rw [needL_come (by omega), hLz]
            refine G.iinc (ls' := [_, _, _, _, _, _]) X 126 dX6_giveOut_123 rfl rfl (by decide) rfl ?_
            refine G.iinc (ls' := [_, _, _, _, _, _]) X 129 dX6_giveOut_126 rfl rfl (by decide) rfl ?_
            refine G.aload_n X 130 dX6_giveOut_129 rfl rfl ?_
            refine G.iload_n X 131 dX6_giveOut_130 rfl rfl ?_
            refine G.vI1 (d := 2) X ml_X6_113 yv_X6_needyAt 134 dX6_giveOut_131 rfl (c_X6_needyAt l D Bs _ kd rf _ y _ hY (by first | (rw [h120, ms_same]; exact hVc) | exact hVi) (by omega)) ⟨_, _, (hY).1, rfl, rfl⟩ (by decide) ⟨Nat.zero_le _, Nat.zero_le _⟩ (Nat.le_of_ble_eq_true rfl) (fun r131 M131 h131 => ?_)
            obtain ⟨hr131, hm131⟩ := h131
            have hq131 : r131 = nthN (needL (M (y + 1))) ((i + 1 : Nat) : Int) := by
              first
              | (rw [hr131, h120, ms_same, hLc]; try rfl)
              | (rw [hr131, hr1, hLz]; try rfl)
            clear hr131
            subst hq131
            obtain rfl := hm131.symm
            refine G.istore (ls' := [_, _, _, _, _, _]) X 136 dX6_giveOut_134 rfl (by decide) rfl ?_
            refine G.goto X 79 dX6_giveOut_136 (by decide) ?_
            refine G.drop 5 ?_
            first
              | (refine ih (i + 1) (z.1 + 1, comeR z.2 u j) M0 _ (by omega) ?_ hVc hLc ((nS_of (r := z.2) (comeR_0 (by decide))).trans hNSz) ((nC_of (r := z.2) (comeR_0 (by decide))).trans hNCz) hh0 (h120.trans (by rw [hM1, ms_ms])) hpos
                 rw [← hres, drop_s hil, hj, giveL_s, if_pos ⟨by omega, by omega⟩, hu]
                 rfl)
              | (refine ih (i + 1) z M0 _ (by omega) ?_ hVz hLz hNSz hNCz hh0 hM1 hpos
                 rw [← hres, drop_s hil, hj, giveL_s, if_neg (by omega)])
  have L4 : ∀ (k : Nat) (i : Nat) (q : Int), i + k = nC (M (y + 1)) → (q = 0 ∨ q = 1) → (q = 0 → ∀ z, z < i → openB (M (y + 1)) z = true → ¬ (fC (M (y + 1)) z 4 = 0 ∧ yardF (M (y + 1)) z (nS (M (y + 1))) ≠ -5)) → (q = 1 → 0 < (giveL (needL (M (y + 1))) (0, (M (y + 1)))).1) → G p l e (rmd 3) s m args below meth c D Bs 6 0 0 (MQ below (xQ D Bs (pI sz kd rf (fun q M' => q = (giveF (M (y + 1))).1 ∧ MSt M' y (actR (giveF (M (y + 1))).2 (M (y + 1))) (actH (giveF (M (y + 1))).2 (M (y + 1)) h) sn t ∧ Off M M' y 8))) args s 0 0 (fun q => Bs ≤ q)) sz kd rf (M) 4 [some (.ref y), some (vi q), some (vi (i : Int)), none, none, none] [] := by
    intro k
    induction k with
    | zero =>
      intro i q hik hq01 hq0 hq1
      obtain rfl : i = nC (M (y + 1)) := by omega
      refine G.iload_n X 5 dX6_giveOut_4 rfl rfl ?_
      refine G.aload_n X 6 dX6_giveOut_5 rfl rfl ?_
      refine G.getR X fl_X6_7 9 dX6_giveOut_6 rfl (hY).1 (ShY.r0 hY) ?_
      refine G.bipush X 11 dX6_giveOut_9 rfl (by decide) ?_
      refine G.iald X (i := 7) 12 dX6_giveOut_11 rfl ((ShY.a0 hY)).1 (((ShY.a0 hY)).2 _) rfl (by omega) (by decide) ?_
      refine G.icmp_ge X 57 15 dX6_giveOut_12 (by decide) rfl (by omega) (by omega) (fun hc12 => ?_) (fun hc12 => ?_)
      · refine G.iload_n X 58 dX6_giveOut_57 rfl rfl ?_
        refine G.if_ne X 64 61 dX6_giveOut_58 (by decide) rfl (by omega) (fun hc58 => ?_) (fun hc58 => ?_)
        · refine G.aload_n X 65 dX6_giveOut_64 rfl rfl ?_
          refine G.vV0 (d := 0) X ml_X6_41 yv_X6_record 68 dX6_giveOut_65 rfl (c_X6_record l D Bs _ kd rf _ y h hY hM.2.1) ⟨_, _, (hY).1, rfl, rfl⟩ (by decide) ⟨Nat.zero_le _, Nat.zero_le _⟩ (Nat.le_of_ble_eq_true rfl) (fun M65 h65 => ?_)
          have e65 : M65 (y + 1) = M (y + 1) := h65.2.1 _ (by omega) (by omega)
          refine G.iconst X 69 dX6_giveOut_68 rfl ?_
          refine G.istore_n (ls' := [_, _, _, _, _, _]) X 70 dX6_giveOut_69 rfl (by decide) rfl ?_
          refine G.iconst X 71 dX6_giveOut_70 rfl ?_
          refine G.istore_n (ls' := [_, _, _, _, _, _]) X 72 dX6_giveOut_71 rfl (by decide) rfl ?_
          refine G.aload_n X 73 dX6_giveOut_72 rfl rfl ?_
          refine G.iconst X 74 dX6_giveOut_73 rfl ?_
          refine G.vI1 (d := 2) X ml_X6_113 yv_X6_needyAt 77 dX6_giveOut_74 rfl (c_X6_needyAt l D Bs _ kd rf _ y _ hY (by rw [e65]; exact hV) (by omega)) ⟨_, _, (hY).1, rfl, rfl⟩ (by decide) ⟨Nat.zero_le _, Nat.zero_le _⟩ (Nat.le_of_ble_eq_true rfl) (fun r74 M74 h74 => ?_)
          obtain ⟨hr74, hm74⟩ := h74
          rw [e65] at hr74
          subst hr74
          obtain rfl := hm74.symm
          refine G.istore (ls' := [_, _, _, _, _, _]) X 79 dX6_giveOut_77 rfl (by decide) rfl ?_
          refine G.drop 1 ?_
          exact L79 (needL (M (y + 1))).length 0 (0, (M (y + 1))) M65 M65 (Nat.zero_add _) rfl hV rfl rfl rfl h65 (by show M65 = ms M65 (y + 1) (M (y + 1)); rw [← e65, ms_self]) (hq1 (by omega))
        · refine G.bipush X 63 dX6_giveOut_61 rfl (by decide) ?_
          refine G.iret X dX6_giveOut_63 ⟨Nat.le_refl _, Nat.le_refl _⟩ ⟨rfl, rfl, rfl, _, rfl, ?_⟩
          unfold giveF
          rw [if_neg (by rw [giveL_zero (L := needL (M (y + 1))) (z := (0, (M (y + 1)))) (fun s hs => hq0 (by omega) s (sortK_mem.mp hs).1 (sortK_mem.mp hs).2)]; exact Int.lt_irrefl 0)]
          exact ⟨rfl, hM, Off.rf⟩
      · exfalso; omega
    | succ k ih =>
      intro i q hik hq01 hq0 hq1
      obtain ⟨-, -, w2, w3, w4, -, -⟩ := hV.2.2 (i) (by omega)
      have hyl := yardF_lim (M (y + 1)) i (nS (M (y + 1)))
      refine G.iload_n X 5 dX6_giveOut_4 rfl rfl ?_
      refine G.aload_n X 6 dX6_giveOut_5 rfl rfl ?_
      refine G.getR X fl_X6_7 9 dX6_giveOut_6 rfl (hY).1 (ShY.r0 hY) ?_
      refine G.bipush X 11 dX6_giveOut_9 rfl (by decide) ?_
      refine G.iald X (i := 7) 12 dX6_giveOut_11 rfl ((ShY.a0 hY)).1 (((ShY.a0 hY)).2 _) rfl (by omega) (by decide) ?_
      refine G.icmp_ge X 57 15 dX6_giveOut_12 (by decide) rfl (by omega) (by omega) (fun hc12 => ?_) (fun hc12 => ?_)
      · exfalso; omega
      · refine G.iload_n X 16 dX6_giveOut_15 rfl rfl ?_
        refine G.if_ne X 45 19 dX6_giveOut_16 (by decide) rfl (by omega) (fun hc16 => ?_) (fun hc16 => ?_)
        · refine G.iconst X 46 dX6_giveOut_45 rfl ?_
          refine G.goto X 50 dX6_giveOut_46 (by decide) ?_
          refine G.istore_n (ls' := [_, _, _, _, _, _]) X 51 dX6_giveOut_50 rfl (by decide) rfl ?_
          refine G.iinc (ls' := [_, _, _, _, _, _]) X 54 dX6_giveOut_51 rfl rfl (by decide) rfl ?_
          refine G.goto X 4 dX6_giveOut_54 (by decide) ?_
          refine ih (i + 1) _ (by omega) (by omega) (fun hx z hz ho hp => ?_) (fun hx => ?_)
          · first
            | (exfalso; omega)
            | (rcases Nat.lt_succ_iff_lt_or_eq.mp hz with e | e
               · exact hq0 (by omega) z e ho hp
               · subst e
                 have h1 := openB_iff.mp ho
                 omega)
          · first
            | (exfalso; omega)
            | exact hq1 (by omega)
            | exact giveL_pos (r := M (y + 1)) (s := i) (L := needL (M (y + 1))) ((sortK_mem (key := nk (M (y + 1))) (P := openB (M (y + 1))) (n := nC (M (y + 1)))).mpr ⟨by omega, openB_iff.mpr (by omega)⟩) (by omega) (by omega)
        · refine G.aload_n X 20 dX6_giveOut_19 rfl rfl ?_
          refine G.iload_n X 21 dX6_giveOut_20 rfl rfl ?_
          refine G.vI1 (d := 1) X ml_X6_101 yv_X6_isOpen 24 dX6_giveOut_21 rfl (c_X6_isOpen l D Bs _ kd rf _ y (i) hY hV (by omega)) ⟨_, _, (hY).1, rfl, rfl⟩ (by decide) ⟨Nat.zero_le _, Nat.zero_le _⟩ (Nat.le_of_ble_eq_true rfl) (fun r21 M21 h21 => ?_)
          obtain ⟨hr21, hm21⟩ := h21
          subst hr21
          obtain rfl := hm21.symm
          refine G.ifb_eq X 49 27 dX6_giveOut_24 (by decide) rfl (fun hc24 => ?_) (fun hc24 => ?_)
          · refine G.iconst X 50 dX6_giveOut_49 rfl ?_
            refine G.istore_n (ls' := [_, _, _, _, _, _]) X 51 dX6_giveOut_50 rfl (by decide) rfl ?_
            refine G.iinc (ls' := [_, _, _, _, _, _]) X 54 dX6_giveOut_51 rfl rfl (by decide) rfl ?_
            refine G.goto X 4 dX6_giveOut_54 (by decide) ?_
            refine ih (i + 1) _ (by omega) (by omega) (fun hx z hz ho hp => ?_) (fun hx => ?_)
            · first
              | (exfalso; omega)
              | (rcases Nat.lt_succ_iff_lt_or_eq.mp hz with e | e
                 · exact hq0 (by omega) z e ho hp
                 · subst e
                   have h1 := openB_iff.mp ho
                   omega)
            · first
              | (exfalso; omega)
              | exact hq1 (by omega)
              | exact giveL_pos (r := M (y + 1)) (s := i) (L := needL (M (y + 1))) ((sortK_mem (key := nk (M (y + 1))) (P := openB (M (y + 1))) (n := nC (M (y + 1)))).mpr ⟨by omega, openB_iff.mpr (by omega)⟩) (by omega) (by omega)
          · refine G.aload_n X 28 dX6_giveOut_27 rfl rfl ?_
            refine G.iload_n X 29 dX6_giveOut_28 rfl rfl ?_
            refine G.vI1 (d := 2) X ml_X6_107 yv_X6_wants 32 dX6_giveOut_29 rfl (c_X6_wants l D Bs _ kd rf _ y (i) hY hV (by omega)) ⟨_, _, (hY).1, rfl, rfl⟩ (by decide) ⟨Nat.zero_le _, Nat.zero_le _⟩ (Nat.le_of_ble_eq_true rfl) (fun r29 M29 h29 => ?_)
            obtain ⟨hr29, hm29⟩ := h29
            subst hr29
            obtain rfl := hm29.symm
            refine G.ifb_eq X 49 35 dX6_giveOut_32 (by decide) rfl (fun hc32 => ?_) (fun hc32 => ?_)
            · refine G.iconst X 50 dX6_giveOut_49 rfl ?_
              refine G.istore_n (ls' := [_, _, _, _, _, _]) X 51 dX6_giveOut_50 rfl (by decide) rfl ?_
              refine G.iinc (ls' := [_, _, _, _, _, _]) X 54 dX6_giveOut_51 rfl rfl (by decide) rfl ?_
              refine G.goto X 4 dX6_giveOut_54 (by decide) ?_
              refine ih (i + 1) _ (by omega) (by omega) (fun hx z hz ho hp => ?_) (fun hx => ?_)
              · first
                | (exfalso; omega)
                | (rcases Nat.lt_succ_iff_lt_or_eq.mp hz with e | e
                   · exact hq0 (by omega) z e ho hp
                   · subst e
                     have h1 := openB_iff.mp ho
                     omega)
              · first
                | (exfalso; omega)
                | exact hq1 (by omega)
                | exact giveL_pos (r := M (y + 1)) (s := i) (L := needL (M (y + 1))) ((sortK_mem (key := nk (M (y + 1))) (P := openB (M (y + 1))) (n := nC (M (y + 1)))).mpr ⟨by omega, openB_iff.mpr (by omega)⟩) (by omega) (by omega)
            · refine G.aload_n X 36 dX6_giveOut_35 rfl rfl ?_
              refine G.iload_n X 37 dX6_giveOut_36 rfl rfl ?_
              refine G.vI1 (d := 2) X ml_X6_110 yv_X6_yardFor 40 dX6_giveOut_37 rfl (c_X6_yardFor l D Bs _ kd rf _ y (i) hY hV (by omega)) ⟨_, _, (hY).1, rfl, rfl⟩ (by decide) ⟨Nat.zero_le _, Nat.zero_le _⟩ (Nat.le_of_ble_eq_true rfl) (fun r37 M37 h37 => ?_)
              obtain ⟨hr37, hm37⟩ := h37
              subst hr37
              obtain rfl := hm37.symm
              refine G.bipush X 42 dX6_giveOut_40 rfl (by decide) ?_
              refine G.icmp_eq X 49 45 dX6_giveOut_42 (by decide) rfl (by omega) (by omega) (fun hc42 => ?_) (fun hc42 => ?_)
              · refine G.iconst X 50 dX6_giveOut_49 rfl ?_
                refine G.istore_n (ls' := [_, _, _, _, _, _]) X 51 dX6_giveOut_50 rfl (by decide) rfl ?_
                refine G.iinc (ls' := [_, _, _, _, _, _]) X 54 dX6_giveOut_51 rfl rfl (by decide) rfl ?_
                refine G.goto X 4 dX6_giveOut_54 (by decide) ?_
                refine ih (i + 1) _ (by omega) (by omega) (fun hx z hz ho hp => ?_) (fun hx => ?_)
                · first
                  | (exfalso; omega)
                  | (rcases Nat.lt_succ_iff_lt_or_eq.mp hz with e | e
                     · exact hq0 (by omega) z e ho hp
                     · subst e
                       have h1 := openB_iff.mp ho
                       omega)
                · first
                  | (exfalso; omega)
                  | exact hq1 (by omega)
                  | exact giveL_pos (r := M (y + 1)) (s := i) (L := needL (M (y + 1))) ((sortK_mem (key := nk (M (y + 1))) (P := openB (M (y + 1))) (n := nC (M (y + 1)))).mpr ⟨by omega, openB_iff.mpr (by omega)⟩) (by omega) (by omega)
              · refine G.iconst X 46 dX6_giveOut_45 rfl ?_
                refine G.goto X 50 dX6_giveOut_46 (by decide) ?_
                refine G.istore_n (ls' := [_, _, _, _, _, _]) X 51 dX6_giveOut_50 rfl (by decide) rfl ?_
                refine G.iinc (ls' := [_, _, _, _, _, _]) X 54 dX6_giveOut_51 rfl rfl (by decide) rfl ?_
                refine G.goto X 4 dX6_giveOut_54 (by decide) ?_
                refine ih (i + 1) _ (by omega) (by omega) (fun hx z hz ho hp => ?_) (fun hx => ?_)
                · first
                  | (exfalso; omega)
                  | (rcases Nat.lt_succ_iff_lt_or_eq.mp hz with e | e
                     · exact hq0 (by omega) z e ho hp
                     · subst e
                       have h1 := openB_iff.mp ho
                       omega)
                · first
                  | (exfalso; omega)
                  | exact hq1 (by omega)
                  | exact giveL_pos (r := M (y + 1)) (s := i) (L := needL (M (y + 1))) ((sortK_mem (key := nk (M (y + 1))) (P := openB (M (y + 1))) (n := nC (M (y + 1)))).mpr ⟨by omega, openB_iff.mpr (by omega)⟩) (by omega) (by omega)
  refine G.iconst X 1 dX6_giveOut_0 rfl ?_
  refine G.istore_n (ls' := [_, _, _, _, _, _]) X 2 dX6_giveOut_1 rfl (by decide) rfl ?_
  refine G.iconst X 3 dX6_giveOut_2 rfl ?_
  refine G.istore_n (ls' := [_, _, _, _, _, _]) X 4 dX6_giveOut_3 rfl (by decide) rfl ?_
  exact L4 (nC (M (y + 1))) 0 0 (by omega) (Or.inl rfl) (fun _ z hz => absurd hz (Nat.not_lt_zero z)) (fun h1 => absurd h1 (by decide))
