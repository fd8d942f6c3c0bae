theorem nthN_in {L : List Nat} {i : Nat} (h : i < L.length) : nthN L (i : Int) = ((L.getD i 0 : Nat) : Int) := by
  unfold nthN
  rw [if_pos (by omega)]
  rfl
theorem nthN_out {L : List Nat} {i : Nat} (h : L.length ≤ i) : nthN L (i : Int) = -5 := by
  unfold nthN
  rw [if_neg (by omega)]
set_option maxHeartbeats 1000000 in
set_option maxRecDepth 100000 in
theorem c_X6_swap (l : Launch) (D : xD) (Bs sz : Nat) (kd : xKd) (rf : xRf) (M : xM) (y : Nat) (h : List xR) (sn : Option xR) (t : List Int) (hY : ShY kd rf y) (hW : Vr (M (y + 1))) (hM : MSt M y (M (y + 1)) h sn t) : CtI l D Bs yX6_swap cX6_swap 6 (some .int) 4 [.ref y] sz kd rf M (fun q M' => q = (swapL (M (y + 1)) (needL (M (y + 1)))).1 ∧ MSt M' y (actR (swapL (M (y + 1)) (needL (M (y + 1)))).2 (M (y + 1))) (actH (swapL (M (y + 1)) (needL (M (y + 1)))).2 (M (y + 1)) h) sn t ∧ Off M M' y 8) := by
  refine Ctr.of (yv_X6_swap.1.2.2.2.2) (List.forall_mem_cons.mpr ⟨rfl, fun _ h => absurd h List.not_mem_nil⟩) (Nat.le_of_ble_eq_true rfl) [some (.ref y), none, none, none, none, none] rfl ?_
  intro p e s m args below meth c X hin
  have hV := hW.k
  obtain ⟨n6, n6b⟩ := hV.n6
  obtain ⟨n7, n7b⟩ := hV.n7
  have hlen : (needL (M (y + 1))).length ≤ 12 := by
    unfold needL
    have h1 := sortK_len (nk (M (y + 1))) (openB (M (y + 1))) (nC (M (y + 1)))
    have h2 := cntN_le (openB (M (y + 1))) (nC (M (y + 1)))
    omega
  have L8 : ∀ (k : Nat) (i : Nat), i + k = (needL (M (y + 1))).length → swapL (M (y + 1)) ((needL (M (y + 1))).drop i) = swapL (M (y + 1)) (needL (M (y + 1))) → G p l e (rmd 4) s m args below meth c D Bs 6 0 0 (MQ below (xQ D Bs (pI sz kd rf (fun q M' => q = (swapL (M (y + 1)) (needL (M (y + 1)))).1 ∧ MSt M' y (actR (swapL (M (y + 1)) (needL (M (y + 1)))).2 (M (y + 1))) (actH (swapL (M (y + 1)) (needL (M (y + 1)))).2 (M (y + 1)) h) sn t ∧ Off M M' y 8))) args s 0 0 (fun q => Bs ≤ q)) sz kd rf (M) 8 [some (.ref y), some (vi (i : Int)), some (vi (nthN (needL (M (y + 1))) (i : Int))), none, none, none] [] := by
    intro k
    induction k with
    | zero =>
      intro i hik hres
      rw [nthN_out (show (needL (M (y + 1))).length ≤ i by omega)]
      rw [List.drop_of_length_le (show (needL (M (y + 1))).length ≤ i by omega)] at hres
      refine G.iload_n X 9 dX6_swap_8 rfl rfl ?_
      refine G.bipush X 11 dX6_swap_9 rfl (by decide) ?_
      refine G.icmp_eq X 100 14 dX6_swap_11 (by decide) rfl (by omega) (by omega) (fun hc11 => ?_) (fun hc11 => ?_)
      · refine G.bipush X 102 dX6_swap_100 rfl (by decide) ?_
        refine G.iret X dX6_swap_102 ⟨Nat.le_refl _, Nat.le_refl _⟩ ⟨rfl, rfl, rfl, _, rfl, ?_⟩
        rw [← hres]
        exact ⟨rfl, hM, Off.rf⟩
      · exact absurd rfl hc11
    | succ k ih =>
      intro i hik hres
      have hil : i < (needL (M (y + 1))).length := by omega
      obtain ⟨hji, hjo⟩ := needL_in hil
      obtain ⟨j, hj⟩ : ∃ j, (needL (M (y + 1))).getD i 0 = j := ⟨_, rfl⟩
      have hn : nthN (needL (M (y + 1))) (i : Int) = (j : Int) := by rw [nthN_in hil, hj]
      rw [hn]
      rw [hj] at hji hjo
      obtain ⟨-, -, -, -, w4, -, -⟩ := hV.2.2 (j) (by omega)
      have hpl := partF_lim (M (y + 1)) j (nC (M (y + 1)))
      have hyl := yardF_lim (M (y + 1)) j (nS (M (y + 1)))
      refine G.iload_n X 9 dX6_swap_8 rfl rfl ?_
      refine G.bipush X 11 dX6_swap_9 rfl (by decide) ?_
      refine G.icmp_eq X 100 14 dX6_swap_11 (by decide) rfl (by omega) (by omega) (fun hc11 => ?_) (fun hc11 => ?_)
      · exfalso; omega
      · refine G.aload_n X 15 dX6_swap_14 rfl rfl ?_
        refine G.iload_n X 16 dX6_swap_15 rfl rfl ?_
        refine G.vI1 (d := 2) X ml_X6_107 yv_X6_wants 19 dX6_swap_16 rfl (c_X6_wants l D Bs _ kd rf _ y (j) hY hV (by omega)) ⟨_, _, (hY).1, rfl, rfl⟩ (by decide) ⟨Nat.zero_le _, Nat.zero_le _⟩ (Nat.le_of_ble_eq_true rfl) (fun r16 M16 h16 => ?_)
        obtain ⟨hr16, hm16⟩ := h16
        subst hr16
        obtain rfl := hm16.symm
        refine G.ifb_eq X 40 22 dX6_swap_19 (by decide) rfl (fun hc19 => ?_) (fun hc19 => ?_)
        · refine G.bipush X 42 dX6_swap_40 rfl (by decide) ?_
          refine G.istore_n (ls' := [_, _, _, _, _, _]) X 43 dX6_swap_42 rfl (by decide) rfl ?_
          refine G.iload_n X 44 dX6_swap_43 rfl rfl ?_
          refine G.bipush X 46 dX6_swap_44 rfl (by decide) ?_
          refine G.icmp_eq X 88 49 dX6_swap_46 (by decide) rfl (by omega) (by omega) (fun hc46 => ?_) (fun hc46 => ?_)
          · refine G.iinc (ls' := [_, _, _, _, _, _]) X 91 dX6_swap_88 rfl rfl (by decide) rfl ?_
            refine G.aload_n X 92 dX6_swap_91 rfl rfl ?_
            refine G.iload_n X 93 dX6_swap_92 rfl rfl ?_
            refine G.vI1 (d := 2) X ml_X6_113 yv_X6_needyAt 96 dX6_swap_93 rfl (c_X6_needyAt l D Bs _ kd rf _ y _ hY hV (by omega)) ⟨_, _, (hY).1, rfl, rfl⟩ (by decide) ⟨Nat.zero_le _, Nat.zero_le _⟩ (Nat.le_of_ble_eq_true rfl) (fun r93 M93 h93 => ?_)
            obtain ⟨hr93, hm93⟩ := h93
            subst hr93
            obtain rfl := hm93.symm
            refine G.istore_n (ls' := [_, _, _, _, _, _]) X 97 dX6_swap_96 rfl (by decide) rfl ?_
            refine G.goto X 8 dX6_swap_97 (by decide) ?_
            refine G.drop 3 ?_
            refine ih (i + 1) (by omega) ?_
            rw [← hres, drop_s hil, hj, swapL_s, if_neg (by omega)]
          · exact absurd hc46 (by decide)
        · refine G.aload_n X 23 dX6_swap_22 rfl rfl ?_
          refine G.iload_n X 24 dX6_swap_23 rfl rfl ?_
          refine G.vI1 (d := 2) X ml_X6_110 yv_X6_yardFor 27 dX6_swap_24 rfl (c_X6_yardFor l D Bs _ kd rf _ y (j) hY hV (by omega)) ⟨_, _, (hY).1, rfl, rfl⟩ (by decide) ⟨Nat.zero_le _, Nat.zero_le _⟩ (Nat.le_of_ble_eq_true rfl) (fun r24 M24 h24 => ?_)
          obtain ⟨hr24, hm24⟩ := h24
          subst hr24
          obtain rfl := hm24.symm
          refine G.bipush X 29 dX6_swap_27 rfl (by decide) ?_
          refine G.icmp_ne X 40 32 dX6_swap_29 (by decide) rfl (by omega) (by omega) (fun hc29 => ?_) (fun hc29 => ?_)
          · refine G.bipush X 42 dX6_swap_40 rfl (by decide) ?_
            refine G.istore_n (ls' := [_, _, _, _, _, _]) X 43 dX6_swap_42 rfl (by decide) rfl ?_
            refine G.iload_n X 44 dX6_swap_43 rfl rfl ?_
            refine G.bipush X 46 dX6_swap_44 rfl (by decide) ?_
            refine G.icmp_eq X 88 49 dX6_swap_46 (by decide) rfl (by omega) (by omega) (fun hc46 => ?_) (fun hc46 => ?_)
            · refine G.iinc (ls' := [_, _, _, _, _, _]) X 91 dX6_swap_88 rfl rfl (by decide) rfl ?_
              refine G.aload_n X 92 dX6_swap_91 rfl rfl ?_
              refine G.iload_n X 93 dX6_swap_92 rfl rfl ?_
              refine G.vI1 (d := 2) X ml_X6_113 yv_X6_needyAt 96 dX6_swap_93 rfl (c_X6_needyAt l D Bs _ kd rf _ y _ hY hV (by omega)) ⟨_, _, (hY).1, rfl, rfl⟩ (by decide) ⟨Nat.zero_le _, Nat.zero_le _⟩ (Nat.le_of_ble_eq_true rfl) (fun r93 M93 h93 => ?_)
              obtain ⟨hr93, hm93⟩ := h93
              subst hr93
              obtain rfl := hm93.symm
              refine G.istore_n (ls' := [_, _, _, _, _, _]) X 97 dX6_swap_96 rfl (by decide) rfl ?_
              refine G.goto X 8 dX6_swap_97 (by decide) ?_
              refine G.drop 3 ?_
              refine ih (i + 1) (by omega) ?_
              rw [← hres, drop_s hil, hj, swapL_s, if_neg (by omega)]
            · exact absurd hc46 (by decide)
          · refine G.aload_n X 33 dX6_swap_32 rfl rfl ?_
            refine G.iload_n X 34 dX6_swap_33 rfl rfl ?_
            refine G.vI1 (d := 3) X ml_X6_116 yv_X6_partnerOf 37 dX6_swap_34 rfl (c_X6_partnerOf l D Bs _ kd rf _ y (j) hY hV (by omega)) ⟨_, _, (hY).1, rfl, rfl⟩ (by decide) ⟨Nat.zero_le _, Nat.zero_le _⟩ (Nat.le_of_ble_eq_true rfl) (fun r34 M34 h34 => ?_)
            obtain ⟨hr34, hm34⟩ := h34
            subst hr34
            obtain rfl := hm34.symm
            refine G.goto X 42 dX6_swap_37 (by decide) ?_
            refine G.istore_n (ls' := [_, _, _, _, _, _]) X 43 dX6_swap_42 rfl (by decide) rfl ?_
            refine G.iload_n X 44 dX6_swap_43 rfl rfl ?_
            refine G.bipush X 46 dX6_swap_44 rfl (by decide) ?_
            refine G.icmp_eq X 88 49 dX6_swap_46 (by decide) rfl (by omega) (by omega) (fun hc46 => ?_) (fun hc46 => ?_)
            · refine G.iinc (ls' := [_, _, _, _, _, _]) X 91 dX6_swap_88 rfl rfl (by decide) rfl ?_
              refine G.aload_n X 92 dX6_swap_91 rfl rfl ?_
              refine G.iload_n X 93 dX6_swap_92 rfl rfl ?_
              refine G.vI1 (d := 2) X ml_X6_113 yv_X6_needyAt 96 dX6_swap_93 rfl (c_X6_needyAt l D Bs _ kd rf _ y _ hY hV (by omega)) ⟨_, _, (hY).1, rfl, rfl⟩ (by decide) ⟨Nat.zero_le _, Nat.zero_le _⟩ (Nat.le_of_ble_eq_true rfl) (fun r93 M93 h93 => ?_)
              obtain ⟨hr93, hm93⟩ := h93
              subst hr93
              obtain rfl := hm93.symm
              refine G.istore_n (ls' := [_, _, _, _, _, _]) X 97 dX6_swap_96 rfl (by decide) rfl ?_
              refine G.goto X 8 dX6_swap_97 (by decide) ?_
              refine G.drop 3 ?_
              refine ih (i + 1) (by omega) ?_
              rw [← hres, drop_s hil, hj, swapL_s, if_neg (by omega)]
            · obtain ⟨w, hw, hwi, hw4, hwy⟩ := partF_get (r := (M (y + 1))) (s := j) (n := nC (M (y + 1))) (by omega)
              rw [hw]
              obtain ⟨hk1, hk2⟩ := hasN_lt hV hwi hw4
              obtain ⟨v, hv, hvi, -⟩ := yardF_get hwy
              refine G.aload_n X 50 dX6_swap_49 rfl rfl ?_
              refine G.vV0 (d := 0) X ml_X6_41 yv_X6_record 53 dX6_swap_50 rfl (c_X6_record l D Bs _ kd rf _ y h hY hM.2.1) ⟨_, _, (hY).1, rfl, rfl⟩ (by decide) ⟨Nat.zero_le _, Nat.zero_le _⟩ (Nat.le_of_ble_eq_true rfl) (fun M50 h50 => ?_)
              have e50 : M50 (y + 1) = M (y + 1) := h50.2.1 _ (by omega) (by omega)
              refine G.aload_n X 54 dX6_swap_53 rfl rfl ?_
              refine G.iload_n X 55 dX6_swap_54 rfl rfl ?_
              refine G.vI1 (d := 1) X ml_X6_81 yv_X6_setAt 58 dX6_swap_55 rfl (c_X6_setAt l D Bs _ kd rf _ y w hY (by omega)) ⟨_, _, (hY).1, rfl, rfl⟩ (by decide) ⟨Nat.zero_le _, Nat.zero_le _⟩ (Nat.le_of_ble_eq_true rfl) (fun r55 M55 h55 => ?_)
              obtain ⟨hr55, hm55⟩ := h55
              rw [e50] at hr55
              obtain rfl : r55 = (hasN (M (y + 1)) w : Int) := by omega
              obtain rfl := hm55.symm
              refine G.istore (ls' := [_, _, _, _, _, _]) X 60 dX6_swap_58 rfl (by decide) rfl ?_
              refine G.aload_n X 61 dX6_swap_60 rfl rfl ?_
              refine G.iload_n X 62 dX6_swap_61 rfl rfl ?_
              refine G.vI1 (d := 2) X ml_X6_110 yv_X6_yardFor 65 dX6_swap_62 rfl (c_X6_yardFor l D Bs _ kd rf _ y w hY (by rw [e50]; exact hV) (by rw [e50]; omega)) ⟨_, _, (hY).1, rfl, rfl⟩ (by decide) ⟨Nat.zero_le _, Nat.zero_le _⟩ (Nat.le_of_ble_eq_true rfl) (fun r62 M62 h62 => ?_)
              obtain ⟨hr62, hm62⟩ := h62
              rw [e50] at hr62
              obtain rfl : r62 = (v : Int) := by omega
              obtain rfl := hm62.symm
              refine G.istore (ls' := [_, _, _, _, _, _]) X 67 dX6_swap_65 rfl (by decide) rfl ?_
              refine G.aload_n X 68 dX6_swap_67 rfl rfl ?_
              refine G.iload X 70 dX6_swap_68 rfl rfl ?_
              refine G.iload_n X 71 dX6_swap_70 rfl rfl ?_
              refine G.vV2 (d := 1) X ml_X6_90 yv_X6_comes 74 dX6_swap_71 rfl (c_X6_comes l D Bs _ kd rf _ y v w hY (by omega) (by omega)) ⟨_, _, (hY).1, rfl, rfl⟩ (by decide) ⟨Nat.zero_le _, Nat.zero_le _⟩ (Nat.le_of_ble_eq_true rfl) (fun M71 h71 => ?_)
              rw [e50] at h71
              subst h71
              refine G.aload_n X 75 dX6_swap_74 rfl rfl ?_
              refine G.iload X 77 dX6_swap_75 rfl rfl ?_
              refine G.iload_n X 78 dX6_swap_77 rfl rfl ?_
              refine G.vV2 (d := 1) X ml_X6_90 yv_X6_comes 81 dX6_swap_78 rfl (c_X6_comes l D Bs _ kd rf _ y (hasN (M (y + 1)) w) j hY (by omega) (by omega)) ⟨_, _, (hY).1, rfl, rfl⟩ (by decide) ⟨Nat.zero_le _, Nat.zero_le _⟩ (Nat.le_of_ble_eq_true rfl) (fun M78 h78 => ?_)
              subst h78
              simp only [ms_same, ms_ms]
              refine G.bipush X 83 dX6_swap_81 rfl (by decide) ?_
              refine G.iload_n X 84 dX6_swap_83 rfl rfl ?_
              refine G.imul X 85 dX6_swap_84 rfl ?_
              refine G.iload_n X 86 dX6_swap_85 rfl rfl ?_
              refine G.iadd X 87 dX6_swap_86 rfl ?_
              refine G.iret X dX6_swap_87 ⟨Nat.le_refl _, Nat.le_refl _⟩ ⟨rfl, rfl, rfl, _, rfl, ?_⟩
              rw [← hres, drop_s hil, hj, swapL_s, if_pos (show (fC (M (y + 1)) j 4 = 0 ∧ yardF (M (y + 1)) j (nS (M (y + 1))) = -5) ∧ partF (M (y + 1)) j (nC (M (y + 1))) ≠ -5 by omega), hw]
              refine ⟨rfl, hM.act h50 (swapR (M (y + 1)) j w) ?_⟩
              unfold swapR
              rw [hv]
              rfl
  refine G.iconst X 1 dX6_swap_0 rfl ?_
  refine G.istore_n (ls' := [_, _, _, _, _, _]) X 2 dX6_swap_1 rfl (by decide) rfl ?_
  refine G.aload_n X 3 dX6_swap_2 rfl rfl ?_
  refine G.iconst X 4 dX6_swap_3 rfl ?_
  refine G.vI1 (d := 2) X ml_X6_113 yv_X6_needyAt 7 dX6_swap_4 rfl (c_X6_needyAt l D Bs _ kd rf _ y _ hY hV (by omega)) ⟨_, _, (hY).1, rfl, rfl⟩ (by decide) ⟨Nat.zero_le _, Nat.zero_le _⟩ (Nat.le_of_ble_eq_true rfl) (fun r4 M4 h4 => ?_)
  obtain ⟨hr4, hm4⟩ := h4
  subst hr4
  obtain rfl := hm4.symm
  refine G.istore_n (ls' := [_, _, _, _, _, _]) X 8 dX6_swap_7 rfl (by decide) rfl ?_
  exact L8 (needL (M (y + 1))).length 0 (Nat.zero_add _) rfl
