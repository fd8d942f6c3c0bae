theorem lessI_lim (x y : Int) : lessI x y ≤ x ∧ lessI x y ≤ y ∧ (lessI x y = x ∨ lessI x y = y) := by
  unfold lessI
  split <;> omega
set_option maxHeartbeats 1000000 in
set_option maxRecDepth 100000 in
theorem c_X5_fuelRun (l : Launch) (D : xD) (Bs sz : Nat) (kd : xKd) (rf : xRf) (M : xM) (a : Nat) (r : xR) (h : List xR) (sn : Option xR) (t : List Int) (hX : ShX kd rf a) (hV : Vr r) (hB : CB h sn) (hC : CSt M a r h sn t) : CtI l D Bs yX5_fuelRun cX5_fuelRun 7 (some .int) 6 [.ref a] sz kd rf M (fun q M' => q = (fuelF r).1 ∧ CSt M' a (actR (fuelF r).2 r) (actH (fuelF r).2 r h) sn t ∧ Off M M' a 215) := by
  refine Ctr.of (yv_X5_fuelRun.1.2.2.2.2) (List.forall_mem_cons.mpr ⟨rfl, fun _ h => absurd h List.not_mem_nil⟩) (Nat.le_of_ble_eq_true rfl) [some (.ref a), none, none, none, none, none, none] rfl ?_
  intro p e s m args below meth c X hin
  obtain ⟨hM, ⟨o, hho⟩, hsnf, hsn, htx⟩ := id hC
  have hVk := hV.k
  obtain ⟨n6, n6b⟩ := hV.1.n6
  obtain ⟨n7, n7b⟩ := hV.1.n7
  obtain ⟨hv0, hv1, hv2, hv3, hv6, hv7⟩ := hV.1.1
  obtain ⟨hb0, hb1, hb2, hb3, -, -, -, hb7, hb8⟩ := hM.1
  have hlen := thirL_len (r := r) n7b
  have htr : 0 ≤ lessI 300 (r 3) ∧ lessI 300 (r 3) ≤ 300 ∧ lessI 300 (r 3) ≤ r 3 := by
    unfold lessI
    split <;> omega
  have L31 : ∀ (k : Nat) (i : Nat) (n : Int) (q : xR) (M1 : xM), i + k = (thirL r).length → fuelL (lessI 300 (r 3)) ((thirL r).drop i) (n, q) = fuelL (lessI 300 (r 3)) (thirL r) (0, r) → 0 ≤ n ∧ n ≤ lessI 300 (r 3) → Vk q → nS q = nS r → nC q = nC r → q 3 = r 3 - n → (∀ u k, fC q u k = fC r u k) → CSt M1 a q (if n = 0 then h else (r :: h).take 5) sn t → (n = 0 → q = r) → (∀ u, u < (thirL r).length → M1 (a + 214) u = (((thirL r).getD u 0 : Nat) : Int)) → Off M M1 a 215 → G p l e (rmd 6) s m args below meth c D Bs 7 0 0 (MQ below (xQ D Bs (pI sz kd rf (fun q M' => q = (fuelF r).1 ∧ CSt M' a (actR (fuelF r).2 r) (actH (fuelF r).2 r h) sn t ∧ Off M M' a 215))) args s 0 0 (fun q => Bs ≤ q)) sz kd rf (M1) 31 [some (.ref a), some (vi (lessI 300 (r 3))), some (vi n), some (vi ((thirL r).length : Int)), some (vi (i : Int)), none, none] [] := by
    intro k
    induction k with
    | zero =>
      intro i n q M1 hik hres hn hVq eS eC e3 eF hCi hqr hR hO
      refine G.iload X 33 dX5_fuelRun_31 rfl rfl ?_
      refine G.iload_n X 34 dX5_fuelRun_33 rfl rfl ?_
      refine G.icmp_ge X 145 37 dX5_fuelRun_34 (by decide) rfl (by omega) (by omega) (fun hc34 => ?_) (fun hc34 => ?_)
      · refine G.iload_n X 146 dX5_fuelRun_145 rfl rfl ?_
        refine G.if_le X 153 149 dX5_fuelRun_146 (by decide) rfl (by omega) (fun hc146 => ?_) (fun hc146 => ?_)
        · refine G.bipush X 155 dX5_fuelRun_153 rfl (by decide) ?_
          refine G.iret X dX5_fuelRun_155 ⟨Nat.le_refl _, Nat.le_refl _⟩ ⟨rfl, rfl, rfl, _, rfl, ?_⟩
          have hz : fuelL (lessI 300 (r 3)) (thirL r) (0, r) = (n, q) := by rw [← hres, List.drop_eq_nil_of_le (by omega)]; rfl
          unfold fuelF
          rw [hz]
          dsimp only
          first
            | (rw [if_pos (by omega)]; rw [if_neg (by omega)] at hCi; exact ⟨rfl, hCi, hO⟩)
            | (rw [if_neg (by omega)]; have hn0 : n = 0 := by omega
               rw [if_pos hn0, hqr hn0] at hCi
               exact ⟨rfl, hCi, hO⟩)
        · refine G.iload_n X 150 dX5_fuelRun_149 rfl rfl ?_
          refine G.goto X 155 dX5_fuelRun_150 (by decide) ?_
          refine G.iret X dX5_fuelRun_155 ⟨Nat.le_refl _, Nat.le_refl _⟩ ⟨rfl, rfl, rfl, _, rfl, ?_⟩
          have hz : fuelL (lessI 300 (r 3)) (thirL r) (0, r) = (n, q) := by rw [← hres, List.drop_eq_nil_of_le (by omega)]; rfl
          unfold fuelF
          rw [hz]
          dsimp only
          first
            | (rw [if_pos (by omega)]; rw [if_neg (by omega)] at hCi; exact ⟨rfl, hCi, hO⟩)
            | (rw [if_neg (by omega)]; have hn0 : n = 0 := by omega
               rw [if_pos hn0, hqr hn0] at hCi
               exact ⟨rfl, hCi, hO⟩)
      · exfalso; omega
    | succ k ih =>
      intro i n q M1 hik hres hn hVq eS eC e3 eF hCi hqr hR hO
      have hin := thirL_in (r := r) (i := i) (by omega)
      rw [drop_s (by omega), fuelL_s] at hres
      dsimp only at hres
      obtain ⟨j, hj⟩ : ∃ j, (thirL r).getD i 0 = j := ⟨_, rfl⟩
      rw [hj] at hin hres
      have hji := hR i (by omega)
      rw [hj] at hji
      have hM1 := hCi.1
      have h4r := hasB_iff.mp hin.2
      have h4q := eF j 4
      obtain ⟨q6, q6b⟩ := hVq.n6
      obtain ⟨-, -, -, hb3, -, -, -, hb7, -⟩ := hM1.1
      obtain ⟨-, -, -, -, c4, -, -, -, -⟩ := hM1.2.2 (j) (by omega)
      obtain ⟨-, -, -, -, w4, -, -⟩ := hVq.2.2 (j) (by omega)
      refine G.iload X 33 dX5_fuelRun_31 rfl rfl ?_
      refine G.iload_n X 34 dX5_fuelRun_33 rfl rfl ?_
      refine G.icmp_ge X 145 37 dX5_fuelRun_34 (by decide) rfl (by omega) (by omega) (fun hc34 => ?_) (fun hc34 => ?_)
      · exfalso; omega
      · refine G.aload_n X 38 dX5_fuelRun_37 rfl rfl ?_
        refine G.getR X fl_X5_10 41 dX5_fuelRun_38 rfl (hX).1 (ShX.r0 hX) ?_
        refine G.aload_n X 42 dX5_fuelRun_41 rfl rfl ?_
        refine G.getR X fl_X5_10 45 dX5_fuelRun_42 rfl (hX).1 (ShX.r0 hX) ?_
        refine G.getR X fl_X5_116 48 dX5_fuelRun_45 rfl ((ShX.now hX)).1 ((ShX.now hX)).2.2.2.1 ?_
        refine G.aload_n X 49 dX5_fuelRun_48 rfl rfl ?_
        refine G.getR X fl_X5_40 52 dX5_fuelRun_49 rfl (hX).1 (ShX.r6 hX) ?_
        refine G.iload X 54 dX5_fuelRun_52 rfl rfl ?_
        refine G.iald X 55 dX5_fuelRun_54 rfl ((ShX.order hX)).1 (((ShX.order hX)).2 _) rfl (by omega) (by decide) ?_
        rw [hji]
        refine G.aald X 56 dX5_fuelRun_55 rfl (ShSt.kc (ShX.now hX)) (by decide) (ShSt.rc (ShX.now hX) (by omega)) rfl (by omega) (by decide) ?_
        refine G.vR1 (d := 1) X ml_X5_164 yv_X4_supplyOf 59 dX5_fuelRun_56 rfl (c_X4_supplyOf l D Bs _ kd rf _ _ _ ((ShX.now hX)) (ShSt.c (ShX.now hX) (by omega)) (by omega) (by omega)) ⟨_, _, ((ShX.now hX)).1, rfl, rfl⟩ (by decide) ⟨Nat.zero_le _, Nat.zero_le _⟩ (Nat.le_of_ble_eq_true rfl) (fun r56 M56 h56 => ?_)
        obtain ⟨hm56, hz56⟩ := h56
        obtain rfl := hm56.symm
        rcases hz56 with ⟨hn56, hz56⟩ | ⟨i56, hi56, hj56, hn56⟩
        · subst hn56
          exfalso
          omega
        · subst hn56
          obtain ⟨hh56, hl56⟩ : hasN q j = i56 ∧ i56 < nS q := by
            unfold hasN
            omega
          subst hh56
          obtain ⟨-, g1, -, -, g4, -, -, -, -⟩ := hM1.2.1 (hasN q j) (by omega)
          obtain ⟨-, v1, -, -, v4, -, -, -⟩ := hVq.2.1 (hasN q j) (by omega)
          have hxr : 0 ≤ lessI (fS q (hasN q j) 1 - fS q (hasN q j) 4) (lessI 300 (r 3) - n) ∧ lessI (fS q (hasN q j) 1 - fS q (hasN q j) 4) (lessI 300 (r 3) - n) ≤ 500 ∧ lessI (fS q (hasN q j) 1 - fS q (hasN q j) 4) (lessI 300 (r 3) - n) ≤ fS q (hasN q j) 1 - fS q (hasN q j) 4 ∧ lessI (fS q (hasN q j) 1 - fS q (hasN q j) 4) (lessI 300 (r 3) - n) ≤ lessI 300 (r 3) - n := by
            have hll := lessI_lim (fS q (hasN q j) 1 - fS q (hasN q j) 4) (lessI 300 (r 3) - n)
            omega
          refine G.astore (ls' := [_, _, _, _, _, _, _]) X 61 dX5_fuelRun_59 rfl (by decide) rfl ?_
          refine G.aload X 63 dX5_fuelRun_61 rfl rfl ?_
          refine G.ifnonnull X 70 dX5_fuelRun_63 (by decide) ?_
          refine G.aload X 72 dX5_fuelRun_70 rfl rfl ?_
          refine G.vI0 (d := 0) X ml_X5_92 yv_X1_room 75 dX5_fuelRun_72 rfl (c_X1_room l D Bs _ kd rf _ _ (ShSt.g (ShX.now hX) (by omega))) ⟨_, _, (ShSt.g (ShX.now hX) (by omega)).1, rfl, rfl⟩ (by decide) ⟨Nat.zero_le _, Nat.zero_le _⟩ (Nat.le_of_ble_eq_true rfl) (fun r72 M72 h72 => ?_)
          obtain ⟨hr72, hm72⟩ := h72
          subst hr72
          obtain rfl := hm72.symm
          refine G.iload_n X 76 dX5_fuelRun_75 rfl rfl ?_
          refine G.iload_n X 77 dX5_fuelRun_76 rfl rfl ?_
          refine G.isub X 78 dX5_fuelRun_77 rfl ?_
          refine G.min X ml_X5_96 81 dX5_fuelRun_78 rfl (by omega) (by omega) ⟨Nat.le_of_ble_eq_true rfl, Nat.le_of_ble_eq_true rfl⟩ ⟨Nat.zero_le _, Nat.zero_le _⟩ ?_
          rw [show (if lessI 300 (r 3) - n < M1 (a + 1 + 3 + hasN q j) 1 - M1 (a + 1 + 3 + hasN q j) 4 then lessI 300 (r 3) - n else M1 (a + 1 + 3 + hasN q j) 1 - M1 (a + 1 + 3 + hasN q j) 4) = lessI (fS q (hasN q j) 1 - fS q (hasN q j) 4) (lessI 300 (r 3) - n) by unfold lessI; rw [g1, g4]]
          refine G.istore (ls' := [_, _, _, _, _, _, _]) X 83 dX5_fuelRun_81 rfl (by decide) rfl ?_
          refine G.aload X 85 dX5_fuelRun_83 rfl rfl ?_
          refine G.ifnull X 88 dX5_fuelRun_85 rfl ?_
          refine G.iload X 90 dX5_fuelRun_88 rfl rfl ?_
          refine G.if_le X 139 93 dX5_fuelRun_90 (by decide) rfl (by omega) (fun hc90 => ?_) (fun hc90 => ?_)
          · refine G.iinc (ls' := [_, _, _, _, _, _, _]) X 142 dX5_fuelRun_139 rfl rfl (by decide) rfl ?_
            refine G.goto X 31 dX5_fuelRun_142 (by decide) ?_
            refine G.drop 5 ?_
            refine G.drop 6 ?_
            first
              | (rw [if_pos (by omega)] at hres
                 obtain ⟨fn6, fn7, fn3⟩ := fillR_n (r := q) (u := hasN q j) (x := lessI (fS q (hasN q j) 1 - fS q (hasN q j) 4) (lessI 300 (r 3) - n))
                 refine ih (i + 1) _ _ _ (by omega) hres (by omega) (Vb.fill hVq (by omega) (by omega) (by omega)) (fn6.trans eS) (fn7.trans eC) (by omega) (fun u k => ?_) ?_ (fun e => by omega) (fun u hu => ?_) ?_
                 · unfold fillR
                   rw [fC_fu0 (by decide), fC_fuS (by omega) (by decide)]
                   exact eF u k
                 · rw [if_neg (by omega)]
                   exact hC2.now hB2 (St.fill hC2.1 (by omega) hVq.bn rfl rfl) (Off.mu (Off.mu Off.rf (by omega)) (by omega))
                 · rw [mu_ne (Or.inl (by omega)), mu_ne (Or.inl (by omega))]
                   exact hR2 u hu
                 · exact hO2.trans (Off.mu (Off.mu Off.rf (by omega)) (by omega)))
              | (rw [if_neg (by omega)] at hres
                 exact ih (i + 1) _ _ _ (by omega) hres (by omega) hVq eS eC e3 eF hCi hqr hR hO)
          · refine G.iload_n X 94 dX5_fuelRun_93 rfl rfl ?_
            refine G.if_ne X 108 97 dX5_fuelRun_94 (by decide) rfl (by omega) (fun hc94 => ?_) (fun hc94 => ?_)
            · rw [if_neg (by omega)] at hCi
              have hC2 := hCi
              have hO2 := hO
              have hB2 := hB.push hV.1.bn (r := r)
              have hR2 := hR
              refine G.aload X 110 dX5_fuelRun_108 rfl rfl ?_
              refine G.dup X 111 dX5_fuelRun_110 rfl rfl ?_
              obtain ⟨-, -, -, -, q4, -⟩ := hC2.1.2.1 (hasN q j) (by omega)
              obtain ⟨-, -, -, q3, -⟩ := hC2.1.1
              refine G.getf (v := vi (fS q (hasN q j) 4)) X fl_X5_100 114 dX5_fuelRun_111 rfl (ShSt.g (ShX.now hX) (by omega)).1 ((xV_int ((ShSt.g (ShX.now hX) (by omega)).2 4)).trans (congrArg vi ?_)) ?_
              · exact q4
              refine G.iload X 116 dX5_fuelRun_114 rfl rfl ?_
              refine G.iadd X 117 dX5_fuelRun_116 rfl ?_
              refine G.putI X fl_X5_100 fi_1_4 rfl 120 dX5_fuelRun_117 rfl (ShSt.g (ShX.now hX) (by omega)).1 ((ShSt.g (ShX.now hX) (by omega)).2 4) ?_
              refine G.aload_n X 121 dX5_fuelRun_120 rfl rfl ?_
              refine G.getR X fl_X5_10 124 dX5_fuelRun_121 rfl (hX).1 (ShX.r0 hX) ?_
              refine G.dup X 125 dX5_fuelRun_124 rfl rfl ?_
              refine G.getf (v := vi (q 3)) X fl_X5_48 128 dX5_fuelRun_125 rfl ((ShX.now hX)).1 ((xV_int (((ShX.now hX)).2.1 3 (by decide))).trans (congrArg vi ?_)) ?_
              · rw [mu_ne (Or.inl (by omega))]; exact q3
              refine G.iload X 130 dX5_fuelRun_128 rfl rfl ?_
              refine G.isub X 131 dX5_fuelRun_130 rfl ?_
              refine G.putI X fl_X5_48 fi_4_3 rfl 134 dX5_fuelRun_131 rfl ((ShX.now hX)).1 (((ShX.now hX)).2.1 3 (by decide)) ?_
              refine G.iload_n X 135 dX5_fuelRun_134 rfl rfl ?_
              refine G.iload X 137 dX5_fuelRun_135 rfl rfl ?_
              refine G.iadd X 138 dX5_fuelRun_137 rfl ?_
              refine G.istore_n (ls' := [_, _, _, _, _, _, _]) X 139 dX5_fuelRun_138 rfl (by decide) rfl ?_
              refine G.iinc (ls' := [_, _, _, _, _, _, _]) X 142 dX5_fuelRun_139 rfl rfl (by decide) rfl ?_
              refine G.goto X 31 dX5_fuelRun_142 (by decide) ?_
              refine G.drop 5 ?_
              refine G.drop 6 ?_
              first
                | (rw [if_pos (by omega)] at hres
                   obtain ⟨fn6, fn7, fn3⟩ := fillR_n (r := q) (u := hasN q j) (x := lessI (fS q (hasN q j) 1 - fS q (hasN q j) 4) (lessI 300 (r 3) - n))
                   refine ih (i + 1) _ _ _ (by omega) hres (by omega) (Vb.fill hVq (by omega) (by omega) (by omega)) (fn6.trans eS) (fn7.trans eC) (by omega) (fun u k => ?_) ?_ (fun e => by omega) (fun u hu => ?_) ?_
                   · unfold fillR
                     rw [fC_fu0 (by decide), fC_fuS (by omega) (by decide)]
                     exact eF u k
                   · rw [if_neg (by omega)]
                     exact hC2.now hB2 (St.fill hC2.1 (by omega) hVq.bn rfl rfl) (Off.mu (Off.mu Off.rf (by omega)) (by omega))
                   · rw [mu_ne (Or.inl (by omega)), mu_ne (Or.inl (by omega))]
                     exact hR2 u hu
                   · exact hO2.trans (Off.mu (Off.mu Off.rf (by omega)) (by omega)))
                | (rw [if_neg (by omega)] at hres
                   exact ih (i + 1) _ _ _ (by omega) hres (by omega) hVq eS eC e3 eF hCi hqr hR hO)
            · have hn0 : n = 0 := by omega
              have e0 := hqr hn0
              rw [if_pos hn0] at hCi
              obtain ⟨o, hho⟩ := hCi.2.1
              refine G.aload_n X 98 dX5_fuelRun_97 rfl rfl ?_
              refine G.getR X fl_X5_29 101 dX5_fuelRun_98 rfl (hX).1 (ShX.r4 hX) ?_
              refine G.aload_n X 102 dX5_fuelRun_101 rfl rfl ?_
              refine G.getR X fl_X5_10 105 dX5_fuelRun_102 rfl (hX).1 (ShX.r0 hX) ?_
              refine G.vV1 (d := 2) X ml_X5_53 yv_X2_push 108 dX5_fuelRun_105 rfl (c_X2_push l D Bs _ kd rf _ (a + 76) (a + 1) o h q (ShX.hist hX) (ShX.now hX) hVq hCi.1 hho hB.1 (by omega)) ⟨_, _, ((ShX.hist hX)).1, rfl, rfl⟩ (by decide) ⟨Nat.zero_le _, Nat.zero_le _⟩ (Nat.le_of_ble_eq_true rfl) (fun M105 h105 => ?_)
              have hC2 : CSt M105 a q ((r :: h).take 5) sn t := by
                rw [← e0]
                exact hCi.push hVq.bn hB h105.1 h105.2
              have hO2 : Off M M105 a 215 := hO.trans (h105.2.mono (by omega))
              have hB2 := hB.push hV.1.bn (r := r)
              have hR2 : ∀ u, u < (thirL r).length → M105 (a + 214) u = (((thirL r).getD u 0 : Nat) : Int) := fun u hu => by rw [h105.2 _ (by omega)]; exact hR u hu
              refine G.aload X 110 dX5_fuelRun_108 rfl rfl ?_
              refine G.dup X 111 dX5_fuelRun_110 rfl rfl ?_
              obtain ⟨-, -, -, -, q4, -⟩ := hC2.1.2.1 (hasN q j) (by omega)
              obtain ⟨-, -, -, q3, -⟩ := hC2.1.1
              refine G.getf (v := vi (fS q (hasN q j) 4)) X fl_X5_100 114 dX5_fuelRun_111 rfl (ShSt.g (ShX.now hX) (by omega)).1 ((xV_int ((ShSt.g (ShX.now hX) (by omega)).2 4)).trans (congrArg vi ?_)) ?_
              · exact q4
              refine G.iload X 116 dX5_fuelRun_114 rfl rfl ?_
              refine G.iadd X 117 dX5_fuelRun_116 rfl ?_
              refine G.putI X fl_X5_100 fi_1_4 rfl 120 dX5_fuelRun_117 rfl (ShSt.g (ShX.now hX) (by omega)).1 ((ShSt.g (ShX.now hX) (by omega)).2 4) ?_
              refine G.aload_n X 121 dX5_fuelRun_120 rfl rfl ?_
              refine G.getR X fl_X5_10 124 dX5_fuelRun_121 rfl (hX).1 (ShX.r0 hX) ?_
              refine G.dup X 125 dX5_fuelRun_124 rfl rfl ?_
              refine G.getf (v := vi (q 3)) X fl_X5_48 128 dX5_fuelRun_125 rfl ((ShX.now hX)).1 ((xV_int (((ShX.now hX)).2.1 3 (by decide))).trans (congrArg vi ?_)) ?_
              · rw [mu_ne (Or.inl (by omega))]; exact q3
              refine G.iload X 130 dX5_fuelRun_128 rfl rfl ?_
              refine G.isub X 131 dX5_fuelRun_130 rfl ?_
              refine G.putI X fl_X5_48 fi_4_3 rfl 134 dX5_fuelRun_131 rfl ((ShX.now hX)).1 (((ShX.now hX)).2.1 3 (by decide)) ?_
              refine G.iload_n X 135 dX5_fuelRun_134 rfl rfl ?_
              refine G.iload X 137 dX5_fuelRun_135 rfl rfl ?_
              refine G.iadd X 138 dX5_fuelRun_137 rfl ?_
              refine G.istore_n (ls' := [_, _, _, _, _, _, _]) X 139 dX5_fuelRun_138 rfl (by decide) rfl ?_
              refine G.iinc (ls' := [_, _, _, _, _, _, _]) X 142 dX5_fuelRun_139 rfl rfl (by decide) rfl ?_
              refine G.goto X 31 dX5_fuelRun_142 (by decide) ?_
              refine G.drop 5 ?_
              refine G.drop 6 ?_
              first
                | (rw [if_pos (by omega)] at hres
                   obtain ⟨fn6, fn7, fn3⟩ := fillR_n (r := q) (u := hasN q j) (x := lessI (fS q (hasN q j) 1 - fS q (hasN q j) 4) (lessI 300 (r 3) - n))
                   refine ih (i + 1) _ _ _ (by omega) hres (by omega) (Vb.fill hVq (by omega) (by omega) (by omega)) (fn6.trans eS) (fn7.trans eC) (by omega) (fun u k => ?_) ?_ (fun e => by omega) (fun u hu => ?_) ?_
                   · unfold fillR
                     rw [fC_fu0 (by decide), fC_fuS (by omega) (by decide)]
                     exact eF u k
                   · rw [if_neg (by omega)]
                     exact hC2.now hB2 (St.fill hC2.1 (by omega) hVq.bn rfl rfl) (Off.mu (Off.mu Off.rf (by omega)) (by omega))
                   · rw [mu_ne (Or.inl (by omega)), mu_ne (Or.inl (by omega))]
                     exact hR2 u hu
                   · exact hO2.trans (Off.mu (Off.mu Off.rf (by omega)) (by omega)))
                | (rw [if_neg (by omega)] at hres
                   exact ih (i + 1) _ _ _ (by omega) hres (by omega) hVq eS eC e3 eF hCi hqr hR hO)
  refine G.sipush X 3 dX5_fuelRun_0 rfl (by decide) ?_
  refine G.aload_n X 4 dX5_fuelRun_3 rfl rfl ?_
  refine G.getR X fl_X5_10 7 dX5_fuelRun_4 rfl (hX).1 (ShX.r0 hX) ?_
  refine G.getI X fl_X5_48 10 dX5_fuelRun_7 rfl ((ShX.now hX)).1 (((ShX.now hX)).2.1 3 (by decide)) ?_
  refine G.min X ml_X5_96 13 dX5_fuelRun_10 rfl (by omega) (by omega) ⟨Nat.le_of_ble_eq_true rfl, Nat.le_of_ble_eq_true rfl⟩ ⟨Nat.zero_le _, Nat.zero_le _⟩ ?_
  rw [show (if M (a + 1) 3 < 300 then M (a + 1) 3 else 300) = lessI 300 (r 3) by unfold lessI; rw [hb3]]
  refine G.istore_n (ls' := [_, _, _, _, _, _, _]) X 14 dX5_fuelRun_13 rfl (by decide) rfl ?_
  refine G.iconst X 15 dX5_fuelRun_14 rfl ?_
  refine G.istore_n (ls' := [_, _, _, _, _, _, _]) X 16 dX5_fuelRun_15 rfl (by decide) rfl ?_
  refine G.aload_n X 17 dX5_fuelRun_16 rfl rfl ?_
  refine G.getR X fl_X5_10 20 dX5_fuelRun_17 rfl (hX).1 (ShX.r0 hX) ?_
  refine G.aload_n X 21 dX5_fuelRun_20 rfl rfl ?_
  refine G.getR X fl_X5_40 24 dX5_fuelRun_21 rfl (hX).1 (ShX.r6 hX) ?_
  refine G.vI1 (d := 5) X ml_X5_161 yv_X4_listSupplied 27 dX5_fuelRun_24 rfl (c_X4_listSupplied l D Bs _ kd rf _ (a + 1) (a + 214) r ((ShX.now hX)) hVk hM (ShX.order hX) (by omega)) ⟨_, _, ((ShX.now hX)).1, rfl, rfl⟩ (by decide) ⟨Nat.zero_le _, Nat.zero_le _⟩ (Nat.le_of_ble_eq_true rfl) (fun r24 M24 h24 => ?_)
  obtain ⟨hr24, hq24, ho24⟩ := h24
  subst hr24
  have hC1 := hC.scr hV.1.bn hB (fun x _ _ _ => ho24 x (by omega)) (by rw [ho24 _ (by omega)]) (ho24 _ (by omega))
  have hO1 : Off M M24 a 215 := fun x hx => ho24 x (by omega)
  refine G.istore_n (ls' := [_, _, _, _, _, _, _]) X 28 dX5_fuelRun_27 rfl (by decide) rfl ?_
  refine G.iconst X 29 dX5_fuelRun_28 rfl ?_
  refine G.istore (ls' := [_, _, _, _, _, _, _]) X 31 dX5_fuelRun_29 rfl (by decide) rfl ?_
  refine L31 (thirL r).length 0 0 r M24 (by omega) (by rw [List.drop_zero]) (by omega) hVk rfl rfl (by omega) (fun _ _ => rfl) ?_ (fun _ => rfl) hq24 hO1
  rw [if_pos rfl]
  exact hC1
