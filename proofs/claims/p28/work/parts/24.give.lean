theorem Vb.fill {r : xR} {w d x : Int} {u : Nat} (h : Vb r w d) (hu : u < nS r) (hx : 0 ≤ x ∧ x ≤ fS r u 1 - fS r u 4) (h3 : x ≤ r 3) : Vb (fillR r u x) w d := by
  obtain ⟨n6, n6b⟩ := h.n6
  have e0 : ∀ k, k < 16 → k ≠ 3 → fillR r u x k = r k := fun k hk h3 => by unfold fillR; rw [fu_ne h3, at_fuS hk]
  have e3 : fillR r u x 3 = r 3 - x := by unfold fillR; rw [fu_same]
  have eS : nS (fillR r u x) = nS r := nS_of (e0 6 (by decide) (by decide))
  have eC : nC (fillR r u x) = nC r := nC_of (e0 7 (by decide) (by decide))
  refine ⟨?_, fun i hi => ?_, fun i hi => ?_⟩
  · rw [e0 0 (by decide) (by decide), e0 1 (by decide) (by decide), e0 2 (by decide) (by decide), e3, e0 6 (by decide) (by decide), e0 7 (by decide) (by decide)]
    have g := h.1
    omega
  · rw [eS] at hi
    have g := h.2.1 i hi
    have e : ∀ k, k < 10 → fS (fillR r u x) i k = if i = u ∧ k = 4 then fS r u 4 + x else fS r i k := fun k hk => by unfold fillR; rw [fS_fu0 (by decide), fS_fuS (by decide) hk]
    unfold Vset at g ⊢
    rw [e 0 (by decide), e 1 (by decide), e 2 (by decide), e 3 (by decide), e 4 (by decide), e 5 (by decide), e 6 (by decide), e 7 (by decide), e0 7 (by decide) (by decide)]
    by_cases hiu : i = u
    · subst hiu
      simp only [true_and, Nat.reduceEqDiff, if_false, if_true]
      omega
    · simp only [hiu, false_and, if_false]
      exact g
  · rw [eC] at hi
    have g := h.2.2 i hi
    have e : ∀ k, fC (fillR r u x) i k = fC r i k := fun k => by unfold fillR; rw [fC_fu0 (by decide), fC_fuS (by omega) (by decide)]
    unfold Vsite at g ⊢
    simp only [e]
    rw [e0 6 (by decide) (by decide)]
    exact g
theorem fillR_n {r : xR} {x : Int} {u : Nat} : nS (fillR r u x) = nS r ∧ nC (fillR r u x) = nC r ∧ fillR r u x 3 = r 3 - x := by
  refine ⟨nS_of ?_, nC_of ?_, ?_⟩
  · unfold fillR; rw [fu_ne (by decide), at_fuS (by decide)]
  · unfold fillR; rw [fu_ne (by decide), at_fuS (by decide)]
  · unfold fillR; rw [fu_same]
theorem St.fill {M : xM} {b u : Nat} {r : xR} {x v3 v4 : Int} (h : St M b r) (hu : u < 10) (hn : nS r ≤ 10 ∧ nC r ≤ 12) (e4 : v4 = fS r u 4 + x) (e3 : v3 = r 3 - x) : St (mu (mu M (b + 3 + u) 4 v4) b 3 v3) b (fillR r u x) := by
  subst e4 e3
  unfold fillR
  exact (h.setG (k := 4) hu hn (by decide) (by decide)).set0 (k := 3) (j := 3) (by rw [nS_fuS, nC_fuS]; exact hn) (by decide)
/-! giving out, swapping, a fuel run: over the sites in their order -/
def giveL : List Nat → Int × xR → Int × xR
  | [], z => z
  | s :: L, z => giveL L (if fC z.2 s 4 = 0 ∧ yardF z.2 s (nS z.2) ≠ -5 then (z.1 + 1, comeR z.2 (yardF z.2 s (nS z.2)).toNat s) else z)
theorem giveL_s (s : Nat) (L : List Nat) (z : Int × xR) : giveL (s :: L) z = giveL L (if fC z.2 s 4 = 0 ∧ yardF z.2 s (nS z.2) ≠ -5 then (z.1 + 1, comeR z.2 (yardF z.2 s (nS z.2)).toNat s) else z) := rfl
def giveF (r : xR) : Int × Option xR := if 0 < (giveL (needL r) (0, r)).1 then ((giveL (needL r) (0, r)).1, some (giveL (needL r) (0, r)).2) else (-5, none)
def swapL (r : xR) : List Nat → Int × Option xR
  | [] => (-5, none)
  | s :: L => if (fC r s 4 = 0 ∧ yardF r s (nS r) = -5) ∧ partF r s (nC r) ≠ -5 then (100 * (s : Int) + partF r s (nC r), some (swapR r s (partF r s (nC r)).toNat)) else swapL r L
theorem swapL_s (r : xR) (s : Nat) (L : List Nat) : swapL r (s :: L) = if (fC r s 4 = 0 ∧ yardF r s (nS r) = -5) ∧ partF r s (nC r) ≠ -5 then (100 * (s : Int) + partF r s (nC r), some (swapR r s (partF r s (nC r)).toNat)) else swapL r L := rfl
def lessI (x y : Int) : Int := if y < x then y else x
def fuelL (tr : Int) : List Nat → Int × xR → Int × xR
  | [], z => z
  | s :: L, z => fuelL tr L (if 0 < lessI (fS z.2 (hasN z.2 s) 1 - fS z.2 (hasN z.2 s) 4) (tr - z.1) then (z.1 + lessI (fS z.2 (hasN z.2 s) 1 - fS z.2 (hasN z.2 s) 4) (tr - z.1), fillR z.2 (hasN z.2 s) (lessI (fS z.2 (hasN z.2 s) 1 - fS z.2 (hasN z.2 s) 4) (tr - z.1))) else z)
theorem fuelL_s (tr : Int) (s : Nat) (L : List Nat) (z : Int × xR) : fuelL tr (s :: L) z = fuelL tr L (if 0 < lessI (fS z.2 (hasN z.2 s) 1 - fS z.2 (hasN z.2 s) 4) (tr - z.1) then (z.1 + lessI (fS z.2 (hasN z.2 s) 1 - fS z.2 (hasN z.2 s) 4) (tr - z.1), fillR z.2 (hasN z.2 s) (lessI (fS z.2 (hasN z.2 s) 1 - fS z.2 (hasN z.2 s) 4) (tr - z.1))) else z) := rfl
def fuelF (r : xR) : Int × Option xR := if 0 < (fuelL (lessI 300 (r 3)) (thirL r) (0, r)).1 then ((fuelL (lessI 300 (r 3)) (thirL r) (0, r)).1, some (fuelL (lessI 300 (r 3)) (thirL r) (0, r)).2) else (-5, none)
theorem drop_s {L : List Nat} {i : Nat} (h : i < L.length) : L.drop i = L.getD i 0 :: L.drop (i + 1) := by
  rw [List.drop_eq_getElem_cons h]
  simp [List.getD_eq_getElem?_getD, h]
theorem needL_in {r : xR} {i : Nat} (h : i < (needL r).length) : (needL r).getD i 0 < nC r ∧ openB r ((needL r).getD i 0) = true := by
  have e : (needL r).getD i 0 = (needL r)[i] := by simp [List.getD_eq_getElem?_getD, h]
  rw [e]
  exact sortK_mem.mp (List.getElem_mem h)
theorem thirL_in {r : xR} {i : Nat} (h : i < (thirL r).length) : (thirL r).getD i 0 < nC r ∧ hasB r ((thirL r).getD i 0) = true := by
  have e : (thirL r).getD i 0 = (thirL r)[i] := by simp [List.getD_eq_getElem?_getD, h]
  rw [e]
  exact sortK_mem.mp (List.getElem_mem h)
theorem needL_len {r : xR} (h : nC r ≤ 12) : (needL r).length ≤ 12 := by
  unfold needL
  have h1 := sortK_len (nk r) (openB r) (nC r)
  have h2 := cntN_le (openB r) (nC r)
  omega
theorem thirL_len {r : xR} (h : nC r ≤ 12) : (thirL r).length ≤ 12 := by
  unfold thirL
  have h1 := sortK_len (tk r) (hasB r) (nC r)
  have h2 := cntN_le (hasB r) (nC r)
  omega
set_option maxHeartbeats 1000000 in
set_option maxRecDepth 100000 in
theorem c_X5_giveOut (l : Launch) (D : xD) (Bs sz : Nat) (kd : xKd) (rf : xRf) (M : xM) (a : Nat) (r : xR) (h : List xR) (sn : Option xR) (t : List Int) (hX : ShX kd rf a) (hV : Vr r) (hB : CB h sn) (hC : CSt M a r h sn t) : CtI l D Bs yX5_giveOut cX5_giveOut 6 (some .int) 6 [.ref a] sz kd rf M (fun q M' => q = (giveF r).1 ∧ CSt M' a (actR (giveF r).2 r) (actH (giveF r).2 r h) sn t ∧ Off M M' a 215) := by
  refine Ctr.of (yv_X5_giveOut.1.2.2.2.2) (List.forall_mem_cons.mpr ⟨rfl, fun _ h => absurd h List.not_mem_nil⟩) (Nat.le_of_ble_eq_true rfl) [some (.ref a), none, none, none, none, none] rfl ?_
  intro p e s m args below meth c X hin
  obtain ⟨hM, ⟨o, hho⟩, hsnf, hsn, htx⟩ := id hC
  have hVk := hV.k
  obtain ⟨n6, n6b⟩ := hV.1.n6
  obtain ⟨n7, n7b⟩ := hV.1.n7
  obtain ⟨hv0, hv1, hv2, hv3, hv6, hv7⟩ := hV.1.1
  obtain ⟨hb0, hb1, hb2, hb3, -, -, -, hb7, hb8⟩ := hM.1
  have hlen := needL_len (r := r) n7b
  have L16 : ∀ (k : Nat) (i : Nat) (n : Int) (q : xR) (M1 : xM), i + k = (needL r).length → giveL ((needL r).drop i) (n, q) = giveL (needL r) (0, r) → 0 ≤ n ∧ n ≤ i → Vk q → nS q = nS r → nC q = nC r → CSt M1 a q (if n = 0 then h else (r :: h).take 5) sn t → (n = 0 → q = r) → (∀ u, u < (needL r).length → M1 (a + 214) u = (((needL r).getD u 0 : Nat) : Int)) → Off M M1 a 215 → G p l e (rmd 6) s m args below meth c D Bs 6 0 0 (MQ below (xQ D Bs (pI sz kd rf (fun q M' => q = (giveF r).1 ∧ CSt M' a (actR (giveF r).2 r) (actH (giveF r).2 r h) sn t ∧ Off M M' a 215))) args s 0 0 (fun q => Bs ≤ q)) sz kd rf (M1) 16 [some (.ref a), some (vi n), some (vi ((needL r).length : Int)), some (vi (i : Int)), none, none] [] := by
    intro k
    induction k with
    | zero =>
      intro i n q M1 hik hres hn hVq eS eC hCi hqr hR hO
      refine G.iload_n X 17 dX5_giveOut_16 rfl rfl ?_
      refine G.iload_n X 18 dX5_giveOut_17 rfl rfl ?_
      refine G.icmp_ge X 105 21 dX5_giveOut_18 (by decide) rfl (by omega) (by omega) (fun hc18 => ?_) (fun hc18 => ?_)
      · refine G.iload_n X 106 dX5_giveOut_105 rfl rfl ?_
        refine G.if_le X 113 109 dX5_giveOut_106 (by decide) rfl (by omega) (fun hc106 => ?_) (fun hc106 => ?_)
        · refine G.bipush X 115 dX5_giveOut_113 rfl (by decide) ?_
          refine G.iret X dX5_giveOut_115 ⟨Nat.le_refl _, Nat.le_refl _⟩ ⟨rfl, rfl, rfl, _, rfl, ?_⟩
          have hz : giveL (needL r) (0, r) = (n, q) := by rw [← hres, List.drop_eq_nil_of_le (by omega)]; rfl
          unfold giveF
          rw [hz]
          dsimp only
          first
            | (rw [if_pos (by omega)]; rw [if_neg (by omega)] at hCi; exact ⟨rfl, hCi, hO⟩)
            | (rw [if_neg (by omega)]; have hn0 : n = 0 := by omega
               rw [if_pos hn0, hqr hn0] at hCi
               exact ⟨rfl, hCi, hO⟩)
        · refine G.iload_n X 110 dX5_giveOut_109 rfl rfl ?_
          refine G.goto X 115 dX5_giveOut_110 (by decide) ?_
          refine G.iret X dX5_giveOut_115 ⟨Nat.le_refl _, Nat.le_refl _⟩ ⟨rfl, rfl, rfl, _, rfl, ?_⟩
          have hz : giveL (needL r) (0, r) = (n, q) := by rw [← hres, List.drop_eq_nil_of_le (by omega)]; rfl
          unfold giveF
          rw [hz]
          dsimp only
          first
            | (rw [if_pos (by omega)]; rw [if_neg (by omega)] at hCi; exact ⟨rfl, hCi, hO⟩)
            | (rw [if_neg (by omega)]; have hn0 : n = 0 := by omega
               rw [if_pos hn0, hqr hn0] at hCi
               exact ⟨rfl, hCi, hO⟩)
      · exfalso; omega
    | succ k ih =>
      intro i n q M1 hik hres hn hVq eS eC hCi hqr hR hO
      have hin := needL_in (r := r) (i := i) (by omega)
      rw [drop_s (by omega), giveL_s] at hres
      dsimp only at hres
      obtain ⟨j, hj⟩ : ∃ j, (needL r).getD i 0 = j := ⟨_, rfl⟩
      rw [hj] at hin hres
      have hji := hR i (by omega)
      rw [hj] at hji
      have hM1 := hCi.1
      obtain ⟨q6, q6b⟩ := hVq.n6
      obtain ⟨-, -, -, -, c4, -, -, -, -⟩ := hM1.2.2 (j) (by omega)
      obtain ⟨-, -, -, -, w4, -, -⟩ := hVq.2.2 (j) (by omega)
      have hyl := yardF_lim q j (nS q)
      refine G.iload_n X 17 dX5_giveOut_16 rfl rfl ?_
      refine G.iload_n X 18 dX5_giveOut_17 rfl rfl ?_
      refine G.icmp_ge X 105 21 dX5_giveOut_18 (by decide) rfl (by omega) (by omega) (fun hc18 => ?_) (fun hc18 => ?_)
      · exfalso; omega
      · refine G.aload_n X 22 dX5_giveOut_21 rfl rfl ?_
        refine G.getR X fl_X5_40 25 dX5_giveOut_22 rfl (hX).1 (ShX.r6 hX) ?_
        refine G.iload_n X 26 dX5_giveOut_25 rfl rfl ?_
        refine G.iald X 27 dX5_giveOut_26 rfl ((ShX.order hX)).1 (((ShX.order hX)).2 _) rfl (by omega) (by decide) ?_
        rw [hji]
        refine G.istore (ls' := [_, _, _, _, _, _]) X 29 dX5_giveOut_27 rfl (by decide) rfl ?_
        refine G.aload_n X 30 dX5_giveOut_29 rfl rfl ?_
        refine G.getR X fl_X5_10 33 dX5_giveOut_30 rfl (hX).1 (ShX.r0 hX) ?_
        refine G.getR X fl_X5_116 36 dX5_giveOut_33 rfl ((ShX.now hX)).1 ((ShX.now hX)).2.2.2.1 ?_
        refine G.iload X 38 dX5_giveOut_36 rfl rfl ?_
        refine G.aald X 39 dX5_giveOut_38 rfl (ShSt.kc (ShX.now hX)) (by decide) (ShSt.rc (ShX.now hX) (by omega)) rfl (by omega) (by decide) ?_
        refine G.getI X fl_X5_120 42 dX5_giveOut_39 rfl (ShSt.c (ShX.now hX) (by omega)).1 ((ShSt.c (ShX.now hX) (by omega)).2 4) ?_
        refine G.bipush X 44 dX5_giveOut_42 rfl (by decide) ?_
        refine G.icmp_ne X 59 47 dX5_giveOut_44 (by decide) rfl (by omega) (by omega) (fun hc44 => ?_) (fun hc44 => ?_)
        · refine G.bipush X 61 dX5_giveOut_59 rfl (by decide) ?_
          refine G.istore (ls' := [_, _, _, _, _, _]) X 63 dX5_giveOut_61 rfl (by decide) rfl ?_
          refine G.iload X 65 dX5_giveOut_63 rfl rfl ?_
          refine G.bipush X 67 dX5_giveOut_65 rfl (by decide) ?_
          refine G.icmp_eq X 99 70 dX5_giveOut_67 (by decide) rfl (by omega) (by omega) (fun hc67 => ?_) (fun hc67 => ?_)
          · refine G.iinc (ls' := [_, _, _, _, _, _]) X 102 dX5_giveOut_99 rfl rfl (by decide) rfl ?_
            refine G.goto X 16 dX5_giveOut_102 (by decide) ?_
            refine G.drop 4 ?_
            refine G.drop 5 ?_
            first
              | (rw [if_pos ⟨by omega, hc67⟩, hw] at hres
                 refine ih (i + 1) _ _ _ (by omega) hres (by omega) hV3 ((nS_of (comeR_0 (by decide))).trans eS) ((nC_of (comeR_0 (by decide))).trans eC) ?_ (fun e => by omega) (fun u hu => by rw [h93.2 _ (by omega)]; exact hR2 u hu) (hO2.trans (h93.2.mono (by omega)))
                 rw [if_neg (by omega)]
                 exact hC2.now hB2 h93.1 h93.2)
              | (rw [if_neg (by omega)] at hres
                 exact ih (i + 1) _ _ _ (by omega) hres (by omega) hVq eS eC hCi hqr hR hO)
          · exact absurd hc67 (by decide)
        · refine G.aload_n X 48 dX5_giveOut_47 rfl rfl ?_
          refine G.getR X fl_X5_10 51 dX5_giveOut_48 rfl (hX).1 (ShX.r0 hX) ?_
          refine G.iload X 53 dX5_giveOut_51 rfl rfl ?_
          refine G.vI1 (d := 0) X ml_X5_152 yv_X4_leastInYard 56 dX5_giveOut_53 rfl (c_X4_leastInYard l D Bs _ kd rf _ (a + 1) j q ((ShX.now hX)) hVq hM1 (by omega)) ⟨_, _, ((ShX.now hX)).1, rfl, rfl⟩ (by decide) ⟨Nat.zero_le _, Nat.zero_le _⟩ (Nat.le_of_ble_eq_true rfl) (fun r53 M53 h53 => ?_)
          obtain ⟨hr53, hm53⟩ := h53
          subst hr53
          obtain rfl := hm53.symm
          refine G.goto X 61 dX5_giveOut_56 (by decide) ?_
          refine G.istore (ls' := [_, _, _, _, _, _]) X 63 dX5_giveOut_61 rfl (by decide) rfl ?_
          refine G.iload X 65 dX5_giveOut_63 rfl rfl ?_
          refine G.bipush X 67 dX5_giveOut_65 rfl (by decide) ?_
          refine G.icmp_eq X 99 70 dX5_giveOut_67 (by decide) rfl (by omega) (by omega) (fun hc67 => ?_) (fun hc67 => ?_)
          · refine G.iinc (ls' := [_, _, _, _, _, _]) X 102 dX5_giveOut_99 rfl rfl (by decide) rfl ?_
            refine G.goto X 16 dX5_giveOut_102 (by decide) ?_
            refine G.drop 4 ?_
            refine G.drop 5 ?_
            first
              | (rw [if_pos ⟨by omega, hc67⟩, hw] at hres
                 refine ih (i + 1) _ _ _ (by omega) hres (by omega) hV3 ((nS_of (comeR_0 (by decide))).trans eS) ((nC_of (comeR_0 (by decide))).trans eC) ?_ (fun e => by omega) (fun u hu => by rw [h93.2 _ (by omega)]; exact hR2 u hu) (hO2.trans (h93.2.mono (by omega)))
                 rw [if_neg (by omega)]
                 exact hC2.now hB2 h93.1 h93.2)
              | (rw [if_neg (by omega)] at hres
                 exact ih (i + 1) _ _ _ (by omega) hres (by omega) hVq eS eC hCi hqr hR hO)
          · obtain ⟨w, hw, hwS, hw5, hwl⟩ := yardF_get hc67
            rw [hw]
            refine G.iload_n X 71 dX5_giveOut_70 rfl rfl ?_
            refine G.if_ne X 85 74 dX5_giveOut_71 (by decide) rfl (by omega) (fun hc71 => ?_) (fun hc71 => ?_)
            · rw [if_neg (by omega)] at hCi
              have hC2 := hCi
              have hO2 := hO
              have hB2 := hB.push hV.1.bn (r := r)
              have hR2 := hR
              refine G.aload_n X 86 dX5_giveOut_85 rfl rfl ?_
              refine G.getR X fl_X5_10 89 dX5_giveOut_86 rfl (hX).1 (ShX.r0 hX) ?_
              refine G.iload X 91 dX5_giveOut_89 rfl rfl ?_
              refine G.iload X 93 dX5_giveOut_91 rfl rfl ?_
              refine G.vV2 (d := 1) X ml_X5_137 yv_X4_send 96 dX5_giveOut_93 rfl (c_X4_send l D Bs _ kd rf _ (a + 1) _ _ _ ((ShX.now hX)) hVq hC2.1 hwS (by omega)) ⟨_, _, ((ShX.now hX)).1, rfl, rfl⟩ (by decide) ⟨Nat.zero_le _, Nat.zero_le _⟩ (Nat.le_of_ble_eq_true rfl) (fun M93 h93 => ?_)
              have hV3 := Vb.come hVq (by decide) hwS (show j < nC _ by omega)
              refine G.iinc (ls' := [_, _, _, _, _, _]) X 99 dX5_giveOut_96 rfl rfl (by decide) rfl ?_
              refine G.iinc (ls' := [_, _, _, _, _, _]) X 102 dX5_giveOut_99 rfl rfl (by decide) rfl ?_
              refine G.goto X 16 dX5_giveOut_102 (by decide) ?_
              refine G.drop 4 ?_
              refine G.drop 5 ?_
              first
                | (rw [if_pos ⟨by omega, hc67⟩, hw] at hres
                   refine ih (i + 1) _ _ _ (by omega) hres (by omega) hV3 ((nS_of (comeR_0 (by decide))).trans eS) ((nC_of (comeR_0 (by decide))).trans eC) ?_ (fun e => by omega) (fun u hu => by rw [h93.2 _ (by omega)]; exact hR2 u hu) (hO2.trans (h93.2.mono (by omega)))
                   rw [if_neg (by omega)]
                   exact hC2.now hB2 h93.1 h93.2)
                | (rw [if_neg (by omega)] at hres
                   exact ih (i + 1) _ _ _ (by omega) hres (by omega) hVq eS eC hCi hqr hR hO)
            · have hn0 : n = 0 := by omega
              have e0 := hqr hn0
              rw [if_pos hn0] at hCi
              obtain ⟨o, hho⟩ := hCi.2.1
              refine G.aload_n X 75 dX5_giveOut_74 rfl rfl ?_
              refine G.getR X fl_X5_29 78 dX5_giveOut_75 rfl (hX).1 (ShX.r4 hX) ?_
              refine G.aload_n X 79 dX5_giveOut_78 rfl rfl ?_
              refine G.getR X fl_X5_10 82 dX5_giveOut_79 rfl (hX).1 (ShX.r0 hX) ?_
              refine G.vV1 (d := 2) X ml_X5_53 yv_X2_push 85 dX5_giveOut_82 rfl (c_X2_push l D Bs _ kd rf _ (a + 76) (a + 1) o h q (ShX.hist hX) (ShX.now hX) hVq hCi.1 hho hB.1 (by omega)) ⟨_, _, ((ShX.hist hX)).1, rfl, rfl⟩ (by decide) ⟨Nat.zero_le _, Nat.zero_le _⟩ (Nat.le_of_ble_eq_true rfl) (fun M82 h82 => ?_)
              have hC2 : CSt M82 a q ((r :: h).take 5) sn t := by
                rw [← e0]
                exact hCi.push hVq.bn hB h82.1 h82.2
              have hO2 : Off M M82 a 215 := hO.trans (h82.2.mono (by omega))
              have hB2 := hB.push hV.1.bn (r := r)
              have hR2 : ∀ u, u < (needL r).length → M82 (a + 214) u = (((needL r).getD u 0 : Nat) : Int) := fun u hu => by rw [h82.2 _ (by omega)]; exact hR u hu
              refine G.aload_n X 86 dX5_giveOut_85 rfl rfl ?_
              refine G.getR X fl_X5_10 89 dX5_giveOut_86 rfl (hX).1 (ShX.r0 hX) ?_
              refine G.iload X 91 dX5_giveOut_89 rfl rfl ?_
              refine G.iload X 93 dX5_giveOut_91 rfl rfl ?_
              refine G.vV2 (d := 1) X ml_X5_137 yv_X4_send 96 dX5_giveOut_93 rfl (c_X4_send l D Bs _ kd rf _ (a + 1) _ _ _ ((ShX.now hX)) hVq hC2.1 hwS (by omega)) ⟨_, _, ((ShX.now hX)).1, rfl, rfl⟩ (by decide) ⟨Nat.zero_le _, Nat.zero_le _⟩ (Nat.le_of_ble_eq_true rfl) (fun M93 h93 => ?_)
              have hV3 := Vb.come hVq (by decide) hwS (show j < nC _ by omega)
              refine G.iinc (ls' := [_, _, _, _, _, _]) X 99 dX5_giveOut_96 rfl rfl (by decide) rfl ?_
              refine G.iinc (ls' := [_, _, _, _, _, _]) X 102 dX5_giveOut_99 rfl rfl (by decide) rfl ?_
              refine G.goto X 16 dX5_giveOut_102 (by decide) ?_
              refine G.drop 4 ?_
              refine G.drop 5 ?_
              first
                | (rw [if_pos ⟨by omega, hc67⟩, hw] at hres
                   refine ih (i + 1) _ _ _ (by omega) hres (by omega) hV3 ((nS_of (comeR_0 (by decide))).trans eS) ((nC_of (comeR_0 (by decide))).trans eC) ?_ (fun e => by omega) (fun u hu => by rw [h93.2 _ (by omega)]; exact hR2 u hu) (hO2.trans (h93.2.mono (by omega)))
                   rw [if_neg (by omega)]
                   exact hC2.now hB2 h93.1 h93.2)
                | (rw [if_neg (by omega)] at hres
                   exact ih (i + 1) _ _ _ (by omega) hres (by omega) hVq eS eC hCi hqr hR hO)
  refine G.iconst X 1 dX5_giveOut_0 rfl ?_
  refine G.istore_n (ls' := [_, _, _, _, _, _]) X 2 dX5_giveOut_1 rfl (by decide) rfl ?_
  refine G.aload_n X 3 dX5_giveOut_2 rfl rfl ?_
  refine G.getR X fl_X5_10 6 dX5_giveOut_3 rfl (hX).1 (ShX.r0 hX) ?_
  refine G.aload_n X 7 dX5_giveOut_6 rfl rfl ?_
  refine G.getR X fl_X5_40 10 dX5_giveOut_7 rfl (hX).1 (ShX.r6 hX) ?_
  refine G.vI1 (d := 5) X ml_X5_148 yv_X4_listOpen 13 dX5_giveOut_10 rfl (c_X4_listOpen l D Bs _ kd rf _ (a + 1) (a + 214) r ((ShX.now hX)) hVk hM (ShX.order hX) (by omega)) ⟨_, _, ((ShX.now hX)).1, rfl, rfl⟩ (by decide) ⟨Nat.zero_le _, Nat.zero_le _⟩ (Nat.le_of_ble_eq_true rfl) (fun r10 M10 h10 => ?_)
  obtain ⟨hr10, hq10, ho10⟩ := h10
  subst hr10
  have hC1 := hC.scr hV.1.bn hB (fun x _ _ _ => ho10 x (by omega)) (by rw [ho10 _ (by omega)]) (ho10 _ (by omega))
  have hO1 : Off M M10 a 215 := fun x hx => ho10 x (by omega)
  refine G.istore_n (ls' := [_, _, _, _, _, _]) X 14 dX5_giveOut_13 rfl (by decide) rfl ?_
  refine G.iconst X 15 dX5_giveOut_14 rfl ?_
  refine G.istore_n (ls' := [_, _, _, _, _, _]) X 16 dX5_giveOut_15 rfl (by decide) rfl ?_
  refine L16 (needL r).length 0 0 r M10 (by omega) (by rw [List.drop_zero]) (by omega) hVk rfl rfl ?_ (fun _ => rfl) hq10 hO1
  rw [if_pos rfl]
  exact hC1
set_option maxHeartbeats 1000000 in
set_option maxRecDepth 100000 in
theorem c_X5_swap (l : Launch) (D : xD) (Bs sz : Nat) (kd : xKd) (rf : xRf) (M : xM) (a : Nat) (r : xR) (h : List xR) (sn : Option xR) (t : List Int) (hX : ShX kd rf a) (hV : Vr r) (hB : CB h sn) (hC : CSt M a r h sn t) : CtI l D Bs yX5_swap cX5_swap 6 (some .int) 6 [.ref a] sz kd rf M (fun q M' => q = (swapL r (needL r)).1 ∧ CSt M' a (actR (swapL r (needL r)).2 r) (actH (swapL r (needL r)).2 r h) sn t ∧ Off M M' a 215) := by
  refine Ctr.of (yv_X5_swap.1.2.2.2.2) (List.forall_mem_cons.mpr ⟨rfl, fun _ h => absurd h List.not_mem_nil⟩) (Nat.le_of_ble_eq_true rfl) [some (.ref a), none, none, none, none, none] rfl ?_
  intro p e s m args below meth c X hin
  obtain ⟨hM, ⟨o, hho⟩, hsnf, hsn, htx⟩ := id hC
  have hVk := hV.k
  obtain ⟨n6, n6b⟩ := hV.1.n6
  obtain ⟨n7, n7b⟩ := hV.1.n7
  obtain ⟨hv0, hv1, hv2, hv3, hv6, hv7⟩ := hV.1.1
  obtain ⟨hb0, hb1, hb2, hb3, -, -, -, hb7, hb8⟩ := hM.1
  have hlen := needL_len (r := r) n7b
  have L14 : ∀ (k : Nat) (i : Nat) (M1 : xM), i + k = (needL r).length → swapL r ((needL r).drop i) = swapL r (needL r) → CSt M1 a r h sn t → (∀ u, u < (needL r).length → M1 (a + 214) u = (((needL r).getD u 0 : Nat) : Int)) → Off M M1 a 215 → G p l e (rmd 6) s m args below meth c D Bs 6 0 0 (MQ below (xQ D Bs (pI sz kd rf (fun q M' => q = (swapL r (needL r)).1 ∧ CSt M' a (actR (swapL r (needL r)).2 r) (actH (swapL r (needL r)).2 r h) sn t ∧ Off M M' a 215))) args s 0 0 (fun q => Bs ≤ q)) sz kd rf (M1) 14 [some (.ref a), some (vi ((needL r).length : Int)), some (vi (i : Int)), none, none, none] [] := by
    intro k
    induction k with
    | zero =>
      intro i M1 hik hres hCi hR hO
      refine G.iload_n X 15 dX5_swap_14 rfl rfl ?_
      refine G.iload_n X 16 dX5_swap_15 rfl rfl ?_
      refine G.icmp_ge X 125 19 dX5_swap_16 (by decide) rfl (by omega) (by omega) (fun hc16 => ?_) (fun hc16 => ?_)
      · refine G.bipush X 127 dX5_swap_125 rfl (by decide) ?_
        refine G.iret X dX5_swap_127 ⟨Nat.le_refl _, Nat.le_refl _⟩ ⟨rfl, rfl, rfl, _, rfl, ?_⟩
        have hz : swapL r (needL r) = (-5, none) := by rw [← hres, List.drop_eq_nil_of_le (by omega)]; rfl
        rw [hz]
        exact ⟨rfl, hCi, hO⟩
      · exfalso; omega
    | succ k ih =>
      intro i M1 hik hres hCi hR hO
      have hin := needL_in (r := r) (i := i) (by omega)
      rw [drop_s (by omega), swapL_s] at hres
      obtain ⟨j, hj⟩ : ∃ j, (needL r).getD i 0 = j := ⟨_, rfl⟩
      rw [hj] at hin hres
      have hji := hR i (by omega)
      rw [hj] at hji
      have hM1 := hCi.1
      obtain ⟨-, -, -, -, c4, -, -, -, -⟩ := hM1.2.2 (j) (by omega)
      obtain ⟨-, -, -, -, w4, -, -⟩ := hV.1.2.2 (j) (by omega)
      have hyl := yardF_lim r j (nS r)
      have hpl := partF_lim r j (nC r)
      have hVq := hVk
      obtain ⟨o, hho⟩ := hCi.2.1
      refine G.iload_n X 15 dX5_swap_14 rfl rfl ?_
      refine G.iload_n X 16 dX5_swap_15 rfl rfl ?_
      refine G.icmp_ge X 125 19 dX5_swap_16 (by decide) rfl (by omega) (by omega) (fun hc16 => ?_) (fun hc16 => ?_)
      · exfalso; omega
      · refine G.aload_n X 20 dX5_swap_19 rfl rfl ?_
        refine G.getR X fl_X5_40 23 dX5_swap_20 rfl (hX).1 (ShX.r6 hX) ?_
        refine G.iload_n X 24 dX5_swap_23 rfl rfl ?_
        refine G.iald X 25 dX5_swap_24 rfl ((ShX.order hX)).1 (((ShX.order hX)).2 _) rfl (by omega) (by decide) ?_
        rw [hji]
        refine G.istore_n (ls' := [_, _, _, _, _, _]) X 26 dX5_swap_25 rfl (by decide) rfl ?_
        refine G.aload_n X 27 dX5_swap_26 rfl rfl ?_
        refine G.getR X fl_X5_10 30 dX5_swap_27 rfl (hX).1 (ShX.r0 hX) ?_
        refine G.getR X fl_X5_116 33 dX5_swap_30 rfl ((ShX.now hX)).1 ((ShX.now hX)).2.2.2.1 ?_
        refine G.iload_n X 34 dX5_swap_33 rfl rfl ?_
        refine G.aald X 35 dX5_swap_34 rfl (ShSt.kc (ShX.now hX)) (by decide) (ShSt.rc (ShX.now hX) (by omega)) rfl (by omega) (by decide) ?_
        refine G.getI X fl_X5_120 38 dX5_swap_35 rfl (ShSt.c (ShX.now hX) (by omega)).1 ((ShSt.c (ShX.now hX) (by omega)).2 4) ?_
        refine G.bipush X 40 dX5_swap_38 rfl (by decide) ?_
        refine G.icmp_ne X 60 43 dX5_swap_40 (by decide) rfl (by omega) (by omega) (fun hc40 => ?_) (fun hc40 => ?_)
        · refine G.iconst X 61 dX5_swap_60 rfl ?_
          refine G.istore (ls' := [_, _, _, _, _, _]) X 63 dX5_swap_61 rfl (by decide) rfl ?_
          refine G.iload X 65 dX5_swap_63 rfl rfl ?_
          refine G.if_eq X 79 68 dX5_swap_65 (by decide) rfl (by omega) (fun hc65 => ?_) (fun hc65 => ?_)
          · refine G.bipush X 81 dX5_swap_79 rfl (by decide) ?_
            refine G.istore (ls' := [_, _, _, _, _, _]) X 83 dX5_swap_81 rfl (by decide) rfl ?_
            refine G.iload X 85 dX5_swap_83 rfl rfl ?_
            refine G.bipush X 87 dX5_swap_85 rfl (by decide) ?_
            refine G.icmp_eq X 119 90 dX5_swap_87 (by decide) rfl (by omega) (by omega) (fun hc87 => ?_) (fun hc87 => ?_)
            · refine G.iinc (ls' := [_, _, _, _, _, _]) X 122 dX5_swap_119 rfl rfl (by decide) rfl ?_
              refine G.goto X 14 dX5_swap_122 (by decide) ?_
              refine G.drop 3 ?_
              refine G.drop 4 ?_
              refine G.drop 5 ?_
              rw [if_neg (by omega)] at hres
              exact ih (i + 1) _ (by omega) hres hCi hR hO
            · exact absurd hc87 (by decide)
          · exact absurd hc65 (by decide)
        · refine G.aload_n X 44 dX5_swap_43 rfl rfl ?_
          refine G.getR X fl_X5_10 47 dX5_swap_44 rfl (hX).1 (ShX.r0 hX) ?_
          refine G.iload_n X 48 dX5_swap_47 rfl rfl ?_
          refine G.vI1 (d := 0) X ml_X5_152 yv_X4_leastInYard 51 dX5_swap_48 rfl (c_X4_leastInYard l D Bs _ kd rf _ (a + 1) j r ((ShX.now hX)) hVk hM1 (by omega)) ⟨_, _, ((ShX.now hX)).1, rfl, rfl⟩ (by decide) ⟨Nat.zero_le _, Nat.zero_le _⟩ (Nat.le_of_ble_eq_true rfl) (fun r48 M48 h48 => ?_)
          obtain ⟨hr48, hm48⟩ := h48
          subst hr48
          obtain rfl := hm48.symm
          refine G.bipush X 53 dX5_swap_51 rfl (by decide) ?_
          refine G.icmp_ne X 60 56 dX5_swap_53 (by decide) rfl (by omega) (by omega) (fun hc53 => ?_) (fun hc53 => ?_)
          · refine G.iconst X 61 dX5_swap_60 rfl ?_
            refine G.istore (ls' := [_, _, _, _, _, _]) X 63 dX5_swap_61 rfl (by decide) rfl ?_
            refine G.iload X 65 dX5_swap_63 rfl rfl ?_
            refine G.if_eq X 79 68 dX5_swap_65 (by decide) rfl (by omega) (fun hc65 => ?_) (fun hc65 => ?_)
            · refine G.bipush X 81 dX5_swap_79 rfl (by decide) ?_
              refine G.istore (ls' := [_, _, _, _, _, _]) X 83 dX5_swap_81 rfl (by decide) rfl ?_
              refine G.iload X 85 dX5_swap_83 rfl rfl ?_
              refine G.bipush X 87 dX5_swap_85 rfl (by decide) ?_
              refine G.icmp_eq X 119 90 dX5_swap_87 (by decide) rfl (by omega) (by omega) (fun hc87 => ?_) (fun hc87 => ?_)
              · refine G.iinc (ls' := [_, _, _, _, _, _]) X 122 dX5_swap_119 rfl rfl (by decide) rfl ?_
                refine G.goto X 14 dX5_swap_122 (by decide) ?_
                refine G.drop 3 ?_
                refine G.drop 4 ?_
                refine G.drop 5 ?_
                rw [if_neg (by omega)] at hres
                exact ih (i + 1) _ (by omega) hres hCi hR hO
              · exact absurd hc87 (by decide)
            · exact absurd hc65 (by decide)
          · refine G.iconst X 57 dX5_swap_56 rfl ?_
            refine G.goto X 61 dX5_swap_57 (by decide) ?_
            refine G.istore (ls' := [_, _, _, _, _, _]) X 63 dX5_swap_61 rfl (by decide) rfl ?_
            refine G.iload X 65 dX5_swap_63 rfl rfl ?_
            refine G.if_eq X 79 68 dX5_swap_65 (by decide) rfl (by omega) (fun hc65 => ?_) (fun hc65 => ?_)
            · exact absurd hc65 (by decide)
            · refine G.aload_n X 69 dX5_swap_68 rfl rfl ?_
              refine G.getR X fl_X5_10 72 dX5_swap_69 rfl (hX).1 (ShX.r0 hX) ?_
              refine G.iload_n X 73 dX5_swap_72 rfl rfl ?_
              refine G.vI1 (d := 2) X ml_X5_155 yv_X4_giverFor 76 dX5_swap_73 rfl (c_X4_giverFor l D Bs _ kd rf _ (a + 1) j r ((ShX.now hX)) hVk hM1 (by omega)) ⟨_, _, ((ShX.now hX)).1, rfl, rfl⟩ (by decide) ⟨Nat.zero_le _, Nat.zero_le _⟩ (Nat.le_of_ble_eq_true rfl) (fun r73 M73 h73 => ?_)
              obtain ⟨hr73, hm73⟩ := h73
              subst hr73
              obtain rfl := hm73.symm
              refine G.goto X 81 dX5_swap_76 (by decide) ?_
              refine G.istore (ls' := [_, _, _, _, _, _]) X 83 dX5_swap_81 rfl (by decide) rfl ?_
              refine G.iload X 85 dX5_swap_83 rfl rfl ?_
              refine G.bipush X 87 dX5_swap_85 rfl (by decide) ?_
              refine G.icmp_eq X 119 90 dX5_swap_87 (by decide) rfl (by omega) (by omega) (fun hc87 => ?_) (fun hc87 => ?_)
              · refine G.iinc (ls' := [_, _, _, _, _, _]) X 122 dX5_swap_119 rfl rfl (by decide) rfl ?_
                refine G.goto X 14 dX5_swap_122 (by decide) ?_
                refine G.drop 3 ?_
                refine G.drop 4 ?_
                refine G.drop 5 ?_
                rw [if_neg (by omega)] at hres
                exact ih (i + 1) _ (by omega) hres hCi hR hO
              · obtain ⟨g, hg, hgC, hg4, hgy⟩ := partF_get hc87
                rw [hg]
                refine G.aload_n X 91 dX5_swap_90 rfl rfl ?_
                refine G.getR X fl_X5_29 94 dX5_swap_91 rfl (hX).1 (ShX.r4 hX) ?_
                refine G.aload_n X 95 dX5_swap_94 rfl rfl ?_
                refine G.getR X fl_X5_10 98 dX5_swap_95 rfl (hX).1 (ShX.r0 hX) ?_
                refine G.vV1 (d := 2) X ml_X5_53 yv_X2_push 101 dX5_swap_98 rfl (c_X2_push l D Bs _ kd rf _ (a + 76) (a + 1) o h r (ShX.hist hX) (ShX.now hX) hVk hCi.1 hho hB.1 (by omega)) ⟨_, _, ((ShX.hist hX)).1, rfl, rfl⟩ (by decide) ⟨Nat.zero_le _, Nat.zero_le _⟩ (Nat.le_of_ble_eq_true rfl) (fun M98 h98 => ?_)
                have hC2 := hCi.push hV.1.bn hB h98.1 h98.2
                have hO2 : Off M M98 a 215 := hO.trans (h98.2.mono (by omega))
                have hB2 := hB.push hV.1.bn (r := r)
                refine G.aload_n X 102 dX5_swap_101 rfl rfl ?_
                refine G.getR X fl_X5_10 105 dX5_swap_102 rfl (hX).1 (ShX.r0 hX) ?_
                refine G.iload_n X 106 dX5_swap_105 rfl rfl ?_
                refine G.iload X 108 dX5_swap_106 rfl rfl ?_
                refine G.vV2 (d := 2) X ml_X5_158 yv_X4_exchange 111 dX5_swap_108 rfl (c_X4_exchange l D Bs _ kd rf _ (a + 1) j g r ((ShX.now hX)) hVk hC2.1 (by omega) hgC hg4 hgy) ⟨_, _, ((ShX.now hX)).1, rfl, rfl⟩ (by decide) ⟨Nat.zero_le _, Nat.zero_le _⟩ (Nat.le_of_ble_eq_true rfl) (fun M108 h108 => ?_)
                refine G.bipush X 113 dX5_swap_111 rfl (by decide) ?_
                refine G.iload_n X 114 dX5_swap_113 rfl rfl ?_
                refine G.imul X 115 dX5_swap_114 rfl ?_
                refine G.iload X 117 dX5_swap_115 rfl rfl ?_
                refine G.iadd X 118 dX5_swap_117 rfl ?_
                refine G.iret X dX5_swap_118 ⟨Nat.le_refl _, Nat.le_refl _⟩ ⟨rfl, rfl, rfl, _, rfl, ?_⟩
                rw [if_pos ⟨by omega, hc87⟩, hg] at hres
                rw [← hres]
                exact ⟨rfl, hC2.now hB2 h108.1 h108.2, hO2.trans (h108.2.mono (by omega))⟩
  refine G.aload_n X 1 dX5_swap_0 rfl rfl ?_
  refine G.getR X fl_X5_10 4 dX5_swap_1 rfl (hX).1 (ShX.r0 hX) ?_
  refine G.aload_n X 5 dX5_swap_4 rfl rfl ?_
  refine G.getR X fl_X5_40 8 dX5_swap_5 rfl (hX).1 (ShX.r6 hX) ?_
  refine G.vI1 (d := 5) X ml_X5_148 yv_X4_listOpen 11 dX5_swap_8 rfl (c_X4_listOpen l D Bs _ kd rf _ (a + 1) (a + 214) r ((ShX.now hX)) hVk hM (ShX.order hX) (by omega)) ⟨_, _, ((ShX.now hX)).1, rfl, rfl⟩ (by decide) ⟨Nat.zero_le _, Nat.zero_le _⟩ (Nat.le_of_ble_eq_true rfl) (fun r8 M8 h8 => ?_)
  obtain ⟨hr8, hq8, ho8⟩ := h8
  subst hr8
  have hC1 := hC.scr hV.1.bn hB (fun x _ _ _ => ho8 x (by omega)) (by rw [ho8 _ (by omega)]) (ho8 _ (by omega))
  have hO1 : Off M M8 a 215 := fun x hx => ho8 x (by omega)
  refine G.istore_n (ls' := [_, _, _, _, _, _]) X 12 dX5_swap_11 rfl (by decide) rfl ?_
  refine G.iconst X 13 dX5_swap_12 rfl ?_
  refine G.istore_n (ls' := [_, _, _, _, _, _]) X 14 dX5_swap_13 rfl (by decide) rfl ?_
  exact L14 (needL r).length 0 M8 (by omega) (by rw [List.drop_zero]) hC1 hq8 hO1
