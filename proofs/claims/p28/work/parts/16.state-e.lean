theorem St.copy {M M' : xM} {b b2 : Nat} {r : xR} (h : St M b2 r) (hA : ∀ q, q < 9 → M' b q = M b2 q) (hB : ∀ j, j < nS r → ∀ q, q < 9 → M' (b + 3 + j) q = M (b2 + 3 + j) q) (hC : ∀ j, j < nC r → ∀ q, q < 9 → M' (b + 13 + j) q = M (b2 + 13 + j) q) : St M' b r := by
  refine ⟨?_, fun i hi => ?_, fun i hi => ?_⟩
  · rw [hA 0 (by decide), hA 1 (by decide), hA 2 (by decide), hA 3 (by decide), hA 4 (by decide), hA 5 (by decide), hA 6 (by decide), hA 7 (by decide), hA 8 (by decide)]
    exact h.1
  · have g := h.2.1 i hi
    have e := hB i hi
    unfold Gen at g ⊢
    rw [e 0 (by decide), e 1 (by decide), e 2 (by decide), e 3 (by decide), e 4 (by decide), e 5 (by decide), e 6 (by decide), e 7 (by decide), e 8 (by decide)]
    exact g
  · have g := h.2.2 i hi
    have e := hC i hi
    unfold Cus at g ⊢
    rw [e 0 (by decide), e 1 (by decide), e 2 (by decide), e 3 (by decide), e 4 (by decide), e 5 (by decide), e 6 (by decide), e 7 (by decide), e 8 (by decide)]
    exact g
theorem ins_done {key : Nat → Int} {L : List Nat} {x k : Nat} {f : Nat → Int} (hk : k ≤ L.length) (hs : SortK key L) (hA : ∀ q, q < k → f q = ((L.getD q 0 : Nat) : Int)) (hB : ∀ q, k ≤ q → q < L.length → f (q + 1) = ((L.getD q 0 : Nat) : Int)) (hK : k < L.length → key (L.getD k 0) < key x) (h0 : k = 0 ∨ ¬ key (L.getD (k - 1) 0) < key x) : ∀ q, q < L.length + 1 → fu f k (x : Int) q = (((insK key x L).getD q 0 : Nat) : Int) := by
  intro q hq
  have hb : ∀ j, j < k → ¬ key (L.getD j 0) < key x := by
    intro j hj
    rcases h0 with h0 | h0
    · omega
    · by_cases e : j = k - 1
      · rw [e]; exact h0
      · have h1 : j < L.length := by omega
        have h2 : k - 1 < L.length := by omega
        have h3 := (List.pairwise_iff_getElem.mp hs) j (k - 1) h1 h2 (by omega)
        rw [show L.getD j 0 = L[j] by simp [List.getD_eq_getElem?_getD, h1]]
        rw [show L.getD (k - 1) 0 = L[k - 1] by simp [List.getD_eq_getElem?_getD, h2]] at h0
        omega
  rw [insK_split L k hk hb hK, insAt_getD hk]
  by_cases h1 : q < k
  · rw [if_pos h1, fu_ne (by omega)]
    exact hA q h1
  · rw [if_neg h1]
    by_cases h2 : q = k
    · subst h2
      rw [if_pos rfl, fu_same]
    · rw [if_neg h2, fu_ne h2]
      have h3 := hB (q - 1) (by omega) (by omega)
      rw [show q - 1 + 1 = q by omega] at h3
      exact h3
theorem hoursL_rng {r : xR} {i : Nat} {w : Int} (h : Vset r i w) : 0 ≤ hoursL r i ∧ hoursL r i ≤ 500 := by
  obtain ⟨-, h1, h2, -, h4, -⟩ := h
  unfold hoursL
  constructor
  · exact Int.ediv_nonneg (by omega) (by omega)
  · have h5 : fS r i 4 / fS r i 2 ≤ fS r i 4 := Int.ediv_le_self _ (by omega)
    omega
set_option maxHeartbeats 4000000 in
set_option maxRecDepth 100000 in
theorem c_X4_copyFrom (l : Launch) (D : xD) (Bs sz : Nat) (kd : xKd) (rf : xRf) (M : xM) (b b2 : Nat) (r : xR) (hS : ShSt kd rf b) (hS2 : ShSt kd rf b2) (hV : Vk r) (hM : St M b2 r) (hd : b + 25 ≤ b2 ∨ b2 + 25 ≤ b) : CtV l D Bs yX4_copyFrom cX4_copyFrom 3 none 1 [.ref b, .ref b2] sz kd rf M (fun M' => St M' b r ∧ Off M M' b 25) := by
  refine Ctr.of (yv_X4_copyFrom.1.2.2.2.2) (List.forall_mem_cons.mpr ⟨rfl, List.forall_mem_cons.mpr ⟨rfl, fun _ h => absurd h List.not_mem_nil⟩⟩) (Nat.le_of_ble_eq_true rfl) [some (.ref b), some (.ref b2), none] rfl ?_
  intro p e s m args below meth c X hin
  obtain ⟨-, -, -, -, -, -, -, hb7, hb8⟩ := hM.1
  obtain ⟨n6, n6b⟩ := hV.n6
  obtain ⟨n7, n7b⟩ := hV.n7
  have L105 : ∀ (k : Nat) (i : Nat) (M1 : xM), i + k = nC r → (∀ q, q < 9 → M1 b q = M b2 q) → (∀ j, j < nS r → ∀ q, q < 9 → M1 (b + 3 + j) q = M (b2 + 3 + j) q) → (∀ j, j < i → ∀ q, q < 9 → M1 (b + 13 + j) q = M (b2 + 13 + j) q) → Off M M1 b 25 → G p l e (rmd 1) s m args below meth c D Bs 3 0 0 (MQ below (xQ D Bs (pV sz kd rf (fun M' => St M' b r ∧ Off M M' b 25))) args s 0 0 (fun q => Bs ≤ q)) sz kd rf (M1) 105 [some (.ref b), some (.ref b2), some (vi (i : Int))] [] := by
    intro k
    induction k with
    | zero =>
      intro i M1 hik hA hB hC hO
      have h8 := hA 8 (by decide)
      obtain rfl : i = nC r := by omega
      refine G.iload_n X 106 dX4_copyFrom_105 rfl rfl ?_
      refine G.aload_n X 107 dX4_copyFrom_106 rfl rfl ?_
      refine G.getI X fl_X4_50 110 dX4_copyFrom_107 rfl (hS).1 ((hS).2.1 8 (by decide)) ?_
      refine G.icmp_ge X 134 113 dX4_copyFrom_110 (by decide) rfl (by omega) (by omega) (fun hc110 => ?_) (fun hc110 => ?_)
      · refine G.vret X dX4_copyFrom_134 ⟨Nat.le_refl _, Nat.le_refl _⟩ ⟨rfl, rfl, rfl, rfl, ?_⟩
        exact ⟨hM.copy hA hB hC, hO⟩
      · exfalso; omega
    | succ k ih =>
      intro i M1 hik hA hB hC hO
      have h8 := hA 8 (by decide)
      refine G.iload_n X 106 dX4_copyFrom_105 rfl rfl ?_
      refine G.aload_n X 107 dX4_copyFrom_106 rfl rfl ?_
      refine G.getI X fl_X4_50 110 dX4_copyFrom_107 rfl (hS).1 ((hS).2.1 8 (by decide)) ?_
      refine G.icmp_ge X 134 113 dX4_copyFrom_110 (by decide) rfl (by omega) (by omega) (fun hc110 => ?_) (fun hc110 => ?_)
      · exfalso; omega
      · refine G.aload_n X 114 dX4_copyFrom_113 rfl rfl ?_
        refine G.getR X fl_X4_26 117 dX4_copyFrom_114 rfl (hS).1 (hS).2.2.2.1 ?_
        refine G.iload_n X 118 dX4_copyFrom_117 rfl rfl ?_
        refine G.aald X 119 dX4_copyFrom_118 rfl (ShSt.kc hS) (by decide) (ShSt.rc hS (by omega)) rfl (by omega) (by decide) ?_
        refine G.aload_n X 120 dX4_copyFrom_119 rfl rfl ?_
        refine G.getR X fl_X4_26 123 dX4_copyFrom_120 rfl (hS2).1 (hS2).2.2.2.1 ?_
        refine G.iload_n X 124 dX4_copyFrom_123 rfl rfl ?_
        refine G.aald X 125 dX4_copyFrom_124 rfl (ShSt.kc hS2) (by decide) (ShSt.rc hS2 (by omega)) rfl (by omega) (by decide) ?_
        refine G.vV1 (d := 0) X ml_X4_57 yv_X0_copyFrom 128 dX4_copyFrom_125 rfl (c_X0_copyFrom l D Bs _ kd rf _ _ _ (ShSt.c hS (by omega)) (ShSt.c hS2 (by omega)) (by omega)) ⟨_, _, (ShSt.c hS (by omega)).1, rfl, rfl⟩ (by decide) ⟨Nat.zero_le _, Nat.zero_le _⟩ (Nat.le_of_ble_eq_true rfl) (fun M125 h125 => ?_)
        refine G.iinc (ls' := [_, _, _]) X 131 dX4_copyFrom_128 rfl rfl (by decide) rfl ?_
        refine G.goto X 105 dX4_copyFrom_131 (by decide) ?_
        refine ih (i + 1) _ (by omega) (fun q hq => by rw [h125.2 b (by omega)]; exact hA q hq) (fun j hj q hq => by rw [h125.2 _ (by omega)]; exact hB j hj q hq) (fun j hj q hq => ?_) (fun a ha => (h125.2 a (by omega)).trans (hO a ha))
        by_cases e : j = i
        · subst e
          rw [h125.1 q hq, hO _ (by omega)]
        · rw [h125.2 _ (by omega)]
          exact hC j (by omega) q hq
  have L74 : ∀ (k : Nat) (i : Nat) (M1 : xM), i + k = nS r → (∀ q, q < 9 → M1 b q = M b2 q) → (∀ j, j < i → ∀ q, q < 9 → M1 (b + 3 + j) q = M (b2 + 3 + j) q) → Off M M1 b 25 → G p l e (rmd 1) s m args below meth c D Bs 3 0 0 (MQ below (xQ D Bs (pV sz kd rf (fun M' => St M' b r ∧ Off M M' b 25))) args s 0 0 (fun q => Bs ≤ q)) sz kd rf (M1) 74 [some (.ref b), some (.ref b2), some (vi (i : Int))] [] := by
    intro k
    induction k with
    | zero =>
      intro i M1 hik hA hB hO
      have h7 := hA 7 (by decide)
      obtain rfl : i = nS r := by omega
      refine G.iload_n X 75 dX4_copyFrom_74 rfl rfl ?_
      refine G.aload_n X 76 dX4_copyFrom_75 rfl rfl ?_
      refine G.getI X fl_X4_47 79 dX4_copyFrom_76 rfl (hS).1 ((hS).2.1 7 (by decide)) ?_
      refine G.icmp_ge X 103 82 dX4_copyFrom_79 (by decide) rfl (by omega) (by omega) (fun hc79 => ?_) (fun hc79 => ?_)
      · refine G.iconst X 104 dX4_copyFrom_103 rfl ?_
        refine G.istore_n (ls' := [_, _, _]) X 105 dX4_copyFrom_104 rfl (by decide) rfl ?_
        exact L105 (nC r) 0 M1 (by omega) hA hB (fun j hj => absurd hj (by omega)) hO
      · exfalso; omega
    | succ k ih =>
      intro i M1 hik hA hB hO
      have h7 := hA 7 (by decide)
      refine G.iload_n X 75 dX4_copyFrom_74 rfl rfl ?_
      refine G.aload_n X 76 dX4_copyFrom_75 rfl rfl ?_
      refine G.getI X fl_X4_47 79 dX4_copyFrom_76 rfl (hS).1 ((hS).2.1 7 (by decide)) ?_
      refine G.icmp_ge X 103 82 dX4_copyFrom_79 (by decide) rfl (by omega) (by omega) (fun hc79 => ?_) (fun hc79 => ?_)
      · exfalso; omega
      · refine G.aload_n X 83 dX4_copyFrom_82 rfl rfl ?_
        refine G.getR X fl_X4_20 86 dX4_copyFrom_83 rfl (hS).1 (hS).2.2.1 ?_
        refine G.iload_n X 87 dX4_copyFrom_86 rfl rfl ?_
        refine G.aald X 88 dX4_copyFrom_87 rfl (ShSt.kg hS) (by decide) (ShSt.rg hS (by omega)) rfl (by omega) (by decide) ?_
        refine G.aload_n X 89 dX4_copyFrom_88 rfl rfl ?_
        refine G.getR X fl_X4_20 92 dX4_copyFrom_89 rfl (hS2).1 (hS2).2.2.1 ?_
        refine G.iload_n X 93 dX4_copyFrom_92 rfl rfl ?_
        refine G.aald X 94 dX4_copyFrom_93 rfl (ShSt.kg hS2) (by decide) (ShSt.rg hS2 (by omega)) rfl (by omega) (by decide) ?_
        refine G.vV1 (d := 0) X ml_X4_53 yv_X1_copyFrom 97 dX4_copyFrom_94 rfl (c_X1_copyFrom l D Bs _ kd rf _ _ _ (ShSt.g hS (by omega)) (ShSt.g hS2 (by omega)) (by omega)) ⟨_, _, (ShSt.g hS (by omega)).1, rfl, rfl⟩ (by decide) ⟨Nat.zero_le _, Nat.zero_le _⟩ (Nat.le_of_ble_eq_true rfl) (fun M94 h94 => ?_)
        refine G.iinc (ls' := [_, _, _]) X 100 dX4_copyFrom_97 rfl rfl (by decide) rfl ?_
        refine G.goto X 74 dX4_copyFrom_100 (by decide) ?_
        refine ih (i + 1) _ (by omega) (fun q hq => by rw [h94.2 b (by omega)]; exact hA q hq) (fun j hj q hq => ?_) (fun a ha => (h94.2 a (by omega)).trans (hO a ha))
        by_cases e : j = i
        · subst e
          rw [h94.1 q hq, hO _ (by omega)]
        · rw [h94.2 _ (by omega)]
          exact hB j (by omega) q hq
  refine G.aload_n X 1 dX4_copyFrom_0 rfl rfl ?_
  refine G.aload_n X 2 dX4_copyFrom_1 rfl rfl ?_
  refine G.getf (v := vi (M b2 0)) X fl_X4_32 5 dX4_copyFrom_2 rfl (hS2).1 ((xV_int ((hS2).2.1 0 (by decide))).trans (congrArg vi ?_)) ?_
  · simp only [mu_read]
    repeat' split
    all_goals first | rfl | (exfalso; omega)
  refine G.putI X fl_X4_32 fi_4_0 rfl 8 dX4_copyFrom_5 rfl (hS).1 ((hS).2.1 0 (by decide)) ?_
  refine G.aload_n X 9 dX4_copyFrom_8 rfl rfl ?_
  refine G.aload_n X 10 dX4_copyFrom_9 rfl rfl ?_
  refine G.getf (v := vi (M b2 1)) X fl_X4_9 13 dX4_copyFrom_10 rfl (hS2).1 ((xV_int ((hS2).2.1 1 (by decide))).trans (congrArg vi ?_)) ?_
  · simp only [mu_read]
    repeat' split
    all_goals first | rfl | (exfalso; omega)
  refine G.putI X fl_X4_9 fi_4_1 rfl 16 dX4_copyFrom_13 rfl (hS).1 ((hS).2.1 1 (by decide)) ?_
  refine G.aload_n X 17 dX4_copyFrom_16 rfl rfl ?_
  refine G.aload_n X 18 dX4_copyFrom_17 rfl rfl ?_
  refine G.getf (v := vi (M b2 2)) X fl_X4_15 21 dX4_copyFrom_18 rfl (hS2).1 ((xV_int ((hS2).2.1 2 (by decide))).trans (congrArg vi ?_)) ?_
  · simp only [mu_read]
    repeat' split
    all_goals first | rfl | (exfalso; omega)
  refine G.putI X fl_X4_15 fi_4_2 rfl 24 dX4_copyFrom_21 rfl (hS).1 ((hS).2.1 2 (by decide)) ?_
  refine G.aload_n X 25 dX4_copyFrom_24 rfl rfl ?_
  refine G.aload_n X 26 dX4_copyFrom_25 rfl rfl ?_
  refine G.getf (v := vi (M b2 3)) X fl_X4_35 29 dX4_copyFrom_26 rfl (hS2).1 ((xV_int ((hS2).2.1 3 (by decide))).trans (congrArg vi ?_)) ?_
  · simp only [mu_read]
    repeat' split
    all_goals first | rfl | (exfalso; omega)
  refine G.putI X fl_X4_35 fi_4_3 rfl 32 dX4_copyFrom_29 rfl (hS).1 ((hS).2.1 3 (by decide)) ?_
  refine G.aload_n X 33 dX4_copyFrom_32 rfl rfl ?_
  refine G.aload_n X 34 dX4_copyFrom_33 rfl rfl ?_
  refine G.getf (v := vi (M b2 4)) X fl_X4_38 37 dX4_copyFrom_34 rfl (hS2).1 ((xV_int ((hS2).2.1 4 (by decide))).trans (congrArg vi ?_)) ?_
  · simp only [mu_read]
    repeat' split
    all_goals first | rfl | (exfalso; omega)
  refine G.putI X fl_X4_38 fi_4_4 rfl 40 dX4_copyFrom_37 rfl (hS).1 ((hS).2.1 4 (by decide)) ?_
  refine G.aload_n X 41 dX4_copyFrom_40 rfl rfl ?_
  refine G.aload_n X 42 dX4_copyFrom_41 rfl rfl ?_
  refine G.getf (v := vi (M b2 5)) X fl_X4_41 45 dX4_copyFrom_42 rfl (hS2).1 ((xV_int ((hS2).2.1 5 (by decide))).trans (congrArg vi ?_)) ?_
  · simp only [mu_read]
    repeat' split
    all_goals first | rfl | (exfalso; omega)
  refine G.putI X fl_X4_41 fi_4_5 rfl 48 dX4_copyFrom_45 rfl (hS).1 ((hS).2.1 5 (by decide)) ?_
  refine G.aload_n X 49 dX4_copyFrom_48 rfl rfl ?_
  refine G.aload_n X 50 dX4_copyFrom_49 rfl rfl ?_
  refine G.getf (v := vi (M b2 6)) X fl_X4_44 53 dX4_copyFrom_50 rfl (hS2).1 ((xV_int ((hS2).2.1 6 (by decide))).trans (congrArg vi ?_)) ?_
  · simp only [mu_read]
    repeat' split
    all_goals first | rfl | (exfalso; omega)
  refine G.putI X fl_X4_44 fi_4_6 rfl 56 dX4_copyFrom_53 rfl (hS).1 ((hS).2.1 6 (by decide)) ?_
  refine G.aload_n X 57 dX4_copyFrom_56 rfl rfl ?_
  refine G.aload_n X 58 dX4_copyFrom_57 rfl rfl ?_
  refine G.getf (v := vi (M b2 7)) X fl_X4_47 61 dX4_copyFrom_58 rfl (hS2).1 ((xV_int ((hS2).2.1 7 (by decide))).trans (congrArg vi ?_)) ?_
  · simp only [mu_read]
    repeat' split
    all_goals first | rfl | (exfalso; omega)
  refine G.putI X fl_X4_47 fi_4_7 rfl 64 dX4_copyFrom_61 rfl (hS).1 ((hS).2.1 7 (by decide)) ?_
  refine G.aload_n X 65 dX4_copyFrom_64 rfl rfl ?_
  refine G.aload_n X 66 dX4_copyFrom_65 rfl rfl ?_
  refine G.getf (v := vi (M b2 8)) X fl_X4_50 69 dX4_copyFrom_66 rfl (hS2).1 ((xV_int ((hS2).2.1 8 (by decide))).trans (congrArg vi ?_)) ?_
  · simp only [mu_read]
    repeat' split
    all_goals first | rfl | (exfalso; omega)
  refine G.putI X fl_X4_50 fi_4_8 rfl 72 dX4_copyFrom_69 rfl (hS).1 ((hS).2.1 8 (by decide)) ?_
  refine G.iconst X 73 dX4_copyFrom_72 rfl ?_
  refine G.istore_n (ls' := [_, _, _]) X 74 dX4_copyFrom_73 rfl (by decide) rfl ?_
  refine L74 (nS r) 0 _ (by omega) (fun q hq => ?_) (fun j hj => absurd hj (by omega)) (Off.mu (Off.mu (Off.mu (Off.mu (Off.mu (Off.mu (Off.mu (Off.mu (Off.mu (Off.rf) (by omega)) (by omega)) (by omega)) (by omega)) (by omega)) (by omega)) (by omega)) (by omega)) (by omega))
  rcases (by omega : q = 0 ∨ q = 1 ∨ q = 2 ∨ q = 3 ∨ q = 4 ∨ q = 5 ∨ q = 6 ∨ q = 7 ∨ q = 8) with h | h | h | h | h | h | h | h | h <;> subst h <;> simp [mu_read]
set_option maxHeartbeats 4000000 in
set_option maxRecDepth 100000 in
theorem c_X4_hoursLeftAt (l : Launch) (D : xD) (Bs sz : Nat) (kd : xKd) (rf : xRf) (M : xM) (b j : Nat) (r : xR) (hS : ShSt kd rf b) (hV : Vk r) (hM : St M b r) (hj : j < nC r) (h4 : 0 < fC r j 4) : CtI l D Bs yX4_hoursLeftAt cX4_hoursLeftAt 3 (some .int) 2 [.ref b, vi (j : Int)] sz kd rf M (fun q M' => q = hoursL r (hasN r j) ∧ M' = M) := by
  refine Ctr.of (yv_X4_hoursLeftAt.1.2.2.2.2) (List.forall_mem_cons.mpr ⟨rfl, List.forall_mem_cons.mpr ⟨rfl, fun _ h => absurd h List.not_mem_nil⟩⟩) (Nat.le_of_ble_eq_true rfl) [some (.ref b), some (vi (j : Int)), none] rfl ?_
  intro p e s m args below meth c X hin
  obtain ⟨-, -, -, -, -, -, -, hb7, -⟩ := hM.1
  obtain ⟨n6, n6b⟩ := hV.n6
  obtain ⟨n7, n7b⟩ := hV.n7
  obtain ⟨-, -, -, -, c4, -, -, -, -⟩ := hM.2.2 (j) hj
  obtain ⟨-, -, -, -, w4, -, -⟩ := hV.2.2 (j) hj
  refine G.aload_n X 1 dX4_hoursLeftAt_0 rfl rfl ?_
  refine G.aload_n X 2 dX4_hoursLeftAt_1 rfl rfl ?_
  refine G.getR X fl_X4_26 5 dX4_hoursLeftAt_2 rfl (hS).1 (hS).2.2.2.1 ?_
  refine G.iload_n X 6 dX4_hoursLeftAt_5 rfl rfl ?_
  refine G.aald X 7 dX4_hoursLeftAt_6 rfl (ShSt.kc hS) (by decide) (ShSt.rc hS (by omega)) rfl (by omega) (by decide) ?_
  refine G.vR1 (d := 1) X ml_X4_97 yv_X4_supplyOf 10 dX4_hoursLeftAt_7 rfl (c_X4_supplyOf l D Bs _ kd rf _ _ _ (hS) (ShSt.c hS (by omega)) (by omega) (by omega)) ⟨_, _, (hS).1, rfl, rfl⟩ (by decide) ⟨Nat.zero_le _, Nat.zero_le _⟩ (Nat.le_of_ble_eq_true rfl) (fun r7 M7 h7 => ?_)
  obtain ⟨hm7, hz7⟩ := h7
  obtain rfl := hm7.symm
  rcases hz7 with ⟨hn7, hz7⟩ | ⟨i7, hi7, hj7, hn7⟩
  · subst hn7
    refine G.astore_nN (ls' := [_, _, _]) X 11 dX4_hoursLeftAt_10 rfl (by decide) rfl ?_
    refine G.aload_nN X 12 dX4_hoursLeftAt_11 rfl rfl ?_
    refine G.ifnonnullN X 15 dX4_hoursLeftAt_12 rfl ?_
    refine G.iconst X 16 dX4_hoursLeftAt_15 rfl ?_
    refine G.goto X 23 dX4_hoursLeftAt_16 (by decide) ?_
    refine G.iret X dX4_hoursLeftAt_23 ⟨Nat.le_refl _, Nat.le_refl _⟩ ⟨rfl, rfl, rfl, _, rfl, ?_⟩
    first | exact ⟨rfl, rfl⟩ | (exfalso; omega)
  · subst hn7
    obtain ⟨hh7, hl7⟩ : hasN r j = i7 ∧ i7 < nS r := by
      unfold hasN
      omega
    subst hh7
    obtain ⟨-, -, g2, -, g4, -, -, -, -⟩ := hM.2.1 (hasN r j) (by omega)
    obtain ⟨-, u1, u2, -, u4, -, -, -⟩ := hV.2.1 (hasN r j) (by omega)
    refine G.astore_n (ls' := [_, _, _]) X 11 dX4_hoursLeftAt_10 rfl (by decide) rfl ?_
    refine G.aload_n X 12 dX4_hoursLeftAt_11 rfl rfl ?_
    refine G.ifnonnull X 19 dX4_hoursLeftAt_12 (by decide) ?_
    refine G.aload_n X 20 dX4_hoursLeftAt_19 rfl rfl ?_
    refine G.vI0 (d := 0) X ml_X4_133 yv_X1_hoursLeft 23 dX4_hoursLeftAt_20 rfl (c_X1_hoursLeft l D Bs _ kd rf _ _ (ShSt.g (hS) (by omega)) (by omega) (by omega)) ⟨_, _, (ShSt.g (hS) (by omega)).1, rfl, rfl⟩ (by decide) ⟨Nat.zero_le _, Nat.zero_le _⟩ (Nat.le_of_ble_eq_true rfl) (fun r20 M20 h20 => ?_)
    obtain ⟨hr20, hm20⟩ := h20
    rw [g4, g2] at hr20
    obtain rfl : r20 = hoursL r (hasN r j) := hr20
    obtain rfl := hm20.symm
    refine G.iret X dX4_hoursLeftAt_23 ⟨Nat.le_refl _, Nat.le_refl _⟩ ⟨rfl, rfl, rfl, _, rfl, ?_⟩
    first | exact ⟨rfl, rfl⟩ | (exfalso; omega)
set_option maxHeartbeats 4000000 in
set_option maxRecDepth 100000 in
theorem c_X4_isAhead0 (l : Launch) (D : xD) (Bs sz : Nat) (kd : xKd) (rf : xRf) (M : xM) (b i j : Nat) (r : xR) (hS : ShSt kd rf b) (hV : Vk r) (hM : St M b r) (hi : i < nC r) (hj : j < nC r) : CtI l D Bs yX4_isAhead cX4_isAhead 5 (some .boolean) 3 [.ref b, vi (i : Int), vi (j : Int), vi 0] sz kd rf M (fun q M' => q = bi (nk r j < nk r i) ∧ M' = M) := by
  refine Ctr.of (yv_X4_isAhead.1.2.2.2.2) (List.forall_mem_cons.mpr ⟨rfl, List.forall_mem_cons.mpr ⟨rfl, List.forall_mem_cons.mpr ⟨rfl, List.forall_mem_cons.mpr ⟨rfl, fun _ h => absurd h List.not_mem_nil⟩⟩⟩⟩) (Nat.le_of_ble_eq_true rfl) [some (.ref b), some (vi (i : Int)), some (vi (j : Int)), some (vi 0), none] rfl ?_
  intro p e s m args below meth c X hin
  obtain ⟨n7, n7b⟩ := hV.n7
  obtain ⟨c0, c1, -, -, -, -, -, -, -⟩ := hM.2.2 (i) (by omega)
  obtain ⟨cv0, cv1, -, -, -, -, -⟩ := hV.2.2 (i) (by omega)
  obtain ⟨f0, f1, -, -, -, -, -, -, -⟩ := hM.2.2 (j) (by omega)
  obtain ⟨fv0, fv1, -, -, -, -, -⟩ := hV.2.2 (j) (by omega)
  refine G.iload_n X 1 dX4_isAhead_0 rfl rfl ?_
  refine G.if_eq X 18 4 dX4_isAhead_1 (by decide) rfl (by omega) (fun hc1 => ?_) (fun hc1 => ?_)
  · refine G.iconst X 19 dX4_isAhead_18 rfl ?_
    refine G.istore (ls' := [_, _, _, _, _]) X 21 dX4_isAhead_19 rfl (by decide) rfl ?_
    refine G.iload X 23 dX4_isAhead_21 rfl rfl ?_
    refine G.if_lt X 49 26 dX4_isAhead_23 (by decide) rfl (by omega) (fun hc23 => ?_) (fun hc23 => ?_)
    · exact absurd hc23 (by decide)
    · refine G.iload X 28 dX4_isAhead_26 rfl rfl ?_
      refine G.if_ne X 53 31 dX4_isAhead_28 (by decide) rfl (by omega) (fun hc28 => ?_) (fun hc28 => ?_)
      · exact absurd hc28 (by decide)
      · refine G.aload_n X 32 dX4_isAhead_31 rfl rfl ?_
        refine G.getR X fl_X4_26 35 dX4_isAhead_32 rfl (hS).1 (hS).2.2.2.1 ?_
        refine G.iload_n X 36 dX4_isAhead_35 rfl rfl ?_
        refine G.aald X 37 dX4_isAhead_36 rfl (ShSt.kc hS) (by decide) (ShSt.rc hS (by omega)) rfl (by omega) (by decide) ?_
        refine G.aload_n X 38 dX4_isAhead_37 rfl rfl ?_
        refine G.getR X fl_X4_26 41 dX4_isAhead_38 rfl (hS).1 (hS).2.2.2.1 ?_
        refine G.iload_n X 42 dX4_isAhead_41 rfl rfl ?_
        refine G.aald X 43 dX4_isAhead_42 rfl (ShSt.kc hS) (by decide) (ShSt.rc hS (by omega)) rfl (by omega) (by decide) ?_
        refine G.vI1 (d := 0) X ml_X4_129 yv_X0_needsMoreThan 46 dX4_isAhead_43 rfl (c_X0_needsMoreThan l D Bs _ kd rf _ _ _ (ShSt.c hS (by omega)) (ShSt.c hS (by omega)) (by omega) (by omega) (by omega) (by omega)) ⟨_, _, (ShSt.c hS (by omega)).1, rfl, rfl⟩ (by decide) ⟨Nat.zero_le _, Nat.zero_le _⟩ (Nat.le_of_ble_eq_true rfl) (fun r43 M43 h43 => ?_)
        obtain ⟨hr43, hm43⟩ := h43
        subst hr43
        obtain rfl := hm43.symm
        refine G.ifb_eq X 53 49 dX4_isAhead_46 (by decide) rfl (fun hc46 => ?_) (fun hc46 => ?_)
        · refine G.iconst X 54 dX4_isAhead_53 rfl ?_
          refine G.zret X dX4_isAhead_54 ⟨Nat.le_refl _, Nat.le_refl _⟩ (Or.inl rfl) ⟨rfl, rfl, rfl, _, rfl, ?_⟩
          unfold nk
          first | exact ⟨(bi_t (by omega)).symm, rfl⟩ | exact ⟨(bi_f (by omega)).symm, rfl⟩
        · refine G.iconst X 50 dX4_isAhead_49 rfl ?_
          refine G.goto X 54 dX4_isAhead_50 (by decide) ?_
          refine G.zret X dX4_isAhead_54 ⟨Nat.le_refl _, Nat.le_refl _⟩ (Or.inr rfl) ⟨rfl, rfl, rfl, _, rfl, ?_⟩
          unfold nk
          first | exact ⟨(bi_t (by omega)).symm, rfl⟩ | exact ⟨(bi_f (by omega)).symm, rfl⟩
  · exact absurd hc1 (by decide)
set_option maxHeartbeats 4000000 in
set_option maxRecDepth 100000 in
theorem c_X4_isAhead1 (l : Launch) (D : xD) (Bs sz : Nat) (kd : xKd) (rf : xRf) (M : xM) (b i j : Nat) (r : xR) (hS : ShSt kd rf b) (hV : Vk r) (hM : St M b r) (hi : i < nC r) (hj : j < nC r) (h4i : 0 < fC r i 4) (h4j : 0 < fC r j 4) : CtI l D Bs yX4_isAhead cX4_isAhead 5 (some .boolean) 3 [.ref b, vi (i : Int), vi (j : Int), vi 1] sz kd rf M (fun q M' => q = bi (tk r j < tk r i) ∧ M' = M) := by
  refine Ctr.of (yv_X4_isAhead.1.2.2.2.2) (List.forall_mem_cons.mpr ⟨rfl, List.forall_mem_cons.mpr ⟨rfl, List.forall_mem_cons.mpr ⟨rfl, List.forall_mem_cons.mpr ⟨rfl, fun _ h => absurd h List.not_mem_nil⟩⟩⟩⟩) (Nat.le_of_ble_eq_true rfl) [some (.ref b), some (vi (i : Int)), some (vi (j : Int)), some (vi 1), none] rfl ?_
  intro p e s m args below meth c X hin
  obtain ⟨n7, n7b⟩ := hV.n7
  obtain ⟨c0, c1, -, -, -, -, -, -, -⟩ := hM.2.2 (i) (by omega)
  obtain ⟨cv0, cv1, -, -, -, -, -⟩ := hV.2.2 (i) (by omega)
  obtain ⟨f0, f1, -, -, -, -, -, -, -⟩ := hM.2.2 (j) (by omega)
  obtain ⟨fv0, fv1, -, -, -, -, -⟩ := hV.2.2 (j) (by omega)
  have hxi := hoursL_rng (hV.2.1 (hasN r i) (hasN_lt hV hi h4i).1)
  have hxj := hoursL_rng (hV.2.1 (hasN r j) (hasN_lt hV hj h4j).1)
  refine G.iload_n X 1 dX4_isAhead_0 rfl rfl ?_
  refine G.if_eq X 18 4 dX4_isAhead_1 (by decide) rfl (by omega) (fun hc1 => ?_) (fun hc1 => ?_)
  · exact absurd hc1 (by decide)
  · refine G.aload_n X 5 dX4_isAhead_4 rfl rfl ?_
    refine G.iload_n X 6 dX4_isAhead_5 rfl rfl ?_
    refine G.vI1 (d := 2) X ml_X4_126 yv_X4_hoursLeftAt 9 dX4_isAhead_6 rfl (c_X4_hoursLeftAt l D Bs _ kd rf _ _ _ _ (hS) hV hM hi h4i) ⟨_, _, (hS).1, rfl, rfl⟩ (by decide) ⟨Nat.zero_le _, Nat.zero_le _⟩ (Nat.le_of_ble_eq_true rfl) (fun r6 M6 h6 => ?_)
    obtain ⟨hr6, hm6⟩ := h6
    subst hr6
    obtain rfl := hm6.symm
    refine G.aload_n X 10 dX4_isAhead_9 rfl rfl ?_
    refine G.iload_n X 11 dX4_isAhead_10 rfl rfl ?_
    refine G.vI1 (d := 2) X ml_X4_126 yv_X4_hoursLeftAt 14 dX4_isAhead_11 rfl (c_X4_hoursLeftAt l D Bs _ kd rf _ _ _ _ (hS) hV hM hj h4j) ⟨_, _, (hS).1, rfl, rfl⟩ (by decide) ⟨Nat.zero_le _, Nat.zero_le _⟩ (Nat.le_of_ble_eq_true rfl) (fun r11 M11 h11 => ?_)
    obtain ⟨hr11, hm11⟩ := h11
    subst hr11
    obtain rfl := hm11.symm
    refine G.isub X 15 dX4_isAhead_14 rfl ?_
    refine G.goto X 19 dX4_isAhead_15 (by decide) ?_
    refine G.istore (ls' := [_, _, _, _, _]) X 21 dX4_isAhead_19 rfl (by decide) rfl ?_
    refine G.iload X 23 dX4_isAhead_21 rfl rfl ?_
    refine G.if_lt X 49 26 dX4_isAhead_23 (by decide) rfl (by omega) (fun hc23 => ?_) (fun hc23 => ?_)
    · refine G.iconst X 50 dX4_isAhead_49 rfl ?_
      refine G.goto X 54 dX4_isAhead_50 (by decide) ?_
      refine G.zret X dX4_isAhead_54 ⟨Nat.le_refl _, Nat.le_refl _⟩ (Or.inr rfl) ⟨rfl, rfl, rfl, _, rfl, ?_⟩
      unfold tk nk
      first | exact ⟨(bi_t (by omega)).symm, rfl⟩ | exact ⟨(bi_f (by omega)).symm, rfl⟩
    · refine G.iload X 28 dX4_isAhead_26 rfl rfl ?_
      refine G.if_ne X 53 31 dX4_isAhead_28 (by decide) rfl (by omega) (fun hc28 => ?_) (fun hc28 => ?_)
      · refine G.iconst X 54 dX4_isAhead_53 rfl ?_
        refine G.zret X dX4_isAhead_54 ⟨Nat.le_refl _, Nat.le_refl _⟩ (Or.inl rfl) ⟨rfl, rfl, rfl, _, rfl, ?_⟩
        unfold tk nk
        first | exact ⟨(bi_t (by omega)).symm, rfl⟩ | exact ⟨(bi_f (by omega)).symm, rfl⟩
      · refine G.aload_n X 32 dX4_isAhead_31 rfl rfl ?_
        refine G.getR X fl_X4_26 35 dX4_isAhead_32 rfl (hS).1 (hS).2.2.2.1 ?_
        refine G.iload_n X 36 dX4_isAhead_35 rfl rfl ?_
        refine G.aald X 37 dX4_isAhead_36 rfl (ShSt.kc hS) (by decide) (ShSt.rc hS (by omega)) rfl (by omega) (by decide) ?_
        refine G.aload_n X 38 dX4_isAhead_37 rfl rfl ?_
        refine G.getR X fl_X4_26 41 dX4_isAhead_38 rfl (hS).1 (hS).2.2.2.1 ?_
        refine G.iload_n X 42 dX4_isAhead_41 rfl rfl ?_
        refine G.aald X 43 dX4_isAhead_42 rfl (ShSt.kc hS) (by decide) (ShSt.rc hS (by omega)) rfl (by omega) (by decide) ?_
        refine G.vI1 (d := 0) X ml_X4_129 yv_X0_needsMoreThan 46 dX4_isAhead_43 rfl (c_X0_needsMoreThan l D Bs _ kd rf _ _ _ (ShSt.c hS (by omega)) (ShSt.c hS (by omega)) (by omega) (by omega) (by omega) (by omega)) ⟨_, _, (ShSt.c hS (by omega)).1, rfl, rfl⟩ (by decide) ⟨Nat.zero_le _, Nat.zero_le _⟩ (Nat.le_of_ble_eq_true rfl) (fun r43 M43 h43 => ?_)
        obtain ⟨hr43, hm43⟩ := h43
        subst hr43
        obtain rfl := hm43.symm
        refine G.ifb_eq X 53 49 dX4_isAhead_46 (by decide) rfl (fun hc46 => ?_) (fun hc46 => ?_)
        · refine G.iconst X 54 dX4_isAhead_53 rfl ?_
          refine G.zret X dX4_isAhead_54 ⟨Nat.le_refl _, Nat.le_refl _⟩ (Or.inl rfl) ⟨rfl, rfl, rfl, _, rfl, ?_⟩
          unfold tk nk
          first | exact ⟨(bi_t (by omega)).symm, rfl⟩ | exact ⟨(bi_f (by omega)).symm, rfl⟩
        · refine G.iconst X 50 dX4_isAhead_49 rfl ?_
          refine G.goto X 54 dX4_isAhead_50 (by decide) ?_
          refine G.zret X dX4_isAhead_54 ⟨Nat.le_refl _, Nat.le_refl _⟩ (Or.inr rfl) ⟨rfl, rfl, rfl, _, rfl, ?_⟩
          unfold tk nk
          first | exact ⟨(bi_t (by omega)).symm, rfl⟩ | exact ⟨(bi_f (by omega)).symm, rfl⟩
set_option maxHeartbeats 4000000 in
set_option maxRecDepth 100000 in
theorem c_X4_insert0 (l : Launch) (D : xD) (Bs sz : Nat) (kd : xKd) (rf : xRf) (M : xM) (b o j : Nat) (L : List Nat) (r : xR) (hS : ShSt kd rf b) (hV : Vk r) (hM : St M b r) (hOA : IsA kd rf o 12) (ho : o < b ∨ b + 25 ≤ o) (hL : ∀ q, q < L.length → M o q = ((L.getD q 0 : Nat) : Int)) (hLn : L.length < 12) (hLm : ∀ q, q < L.length → L.getD q 0 < nC r) (hsort : SortK (nk r) L) (hj : j < nC r) : CtV l D Bs yX4_insert cX4_insert 6 none 4 [.ref b, .ref o, vi (L.length : Int), vi (j : Int), vi 0] sz kd rf M (fun M' => (∀ q, q < L.length + 1 → M' o q = (((insK (nk r) j L).getD q 0 : Nat) : Int)) ∧ ∀ a, a ≠ o → M' a = M a) := by
  refine Ctr.of (yv_X4_insert.1.2.2.2.2) (List.forall_mem_cons.mpr ⟨rfl, List.forall_mem_cons.mpr ⟨rfl, List.forall_mem_cons.mpr ⟨rfl, List.forall_mem_cons.mpr ⟨rfl, List.forall_mem_cons.mpr ⟨rfl, fun _ h => absurd h List.not_mem_nil⟩⟩⟩⟩⟩) (Nat.le_of_ble_eq_true rfl) [some (.ref b), some (.ref o), some (vi (L.length : Int)), some (vi (j : Int)), some (vi 0), none] rfl ?_
  intro p e s m args below meth c X hin
  obtain ⟨n6, n6b⟩ := hV.n6
  obtain ⟨n7, n7b⟩ := hV.n7
  have L3 : ∀ (k : Nat) (M1 : xM), k ≤ L.length → (∀ q, q < k → M1 o q = ((L.getD q 0 : Nat) : Int)) → (∀ q, k ≤ q → q < L.length → M1 o (q + 1) = ((L.getD q 0 : Nat) : Int)) → (∀ q, k ≤ q → q < L.length → nk r (L.getD q 0) < nk r j) → (∀ a, a ≠ o → M1 a = M a) → G p l e (rmd 4) s m args below meth c D Bs 6 0 0 (MQ below (xQ D Bs (pV sz kd rf (fun M' => (∀ q, q < L.length + 1 → M' o q = (((insK (nk r) j L).getD q 0 : Nat) : Int)) ∧ ∀ a, a ≠ o → M' a = M a))) args s 0 0 (fun q => Bs ≤ q)) sz kd rf (M1) 3 [some (.ref b), some (.ref o), some (vi (L.length : Int)), some (vi (j : Int)), some (vi 0), some (vi (k : Int))] [] := by
    intro k
    induction k with
    | zero =>
      intro M1 hk hA hB hK hO
      have hM1 : St M1 b r := hM.off ⟨n6b, n7b⟩ (fun a h1 h2 => hO a (by omega))
      refine G.iload X 5 dX4_insert_3 rfl rfl ?_
      refine G.if_le X 40 8 dX4_insert_5 (by decide) rfl (by omega) (fun hc5 => ?_) (fun hc5 => ?_)
      · refine G.aload_n X 41 dX4_insert_40 rfl rfl ?_
        refine G.iload X 43 dX4_insert_41 rfl rfl ?_
        refine G.iload_n X 44 dX4_insert_43 rfl rfl ?_
        refine G.iast X (i := 0) 45 dX4_insert_44 rfl (hOA).1 ((hOA).2 _) rfl (by omega) (by decide) ?_
        refine G.vret X dX4_insert_45 ⟨Nat.le_refl _, Nat.le_refl _⟩ ⟨rfl, rfl, rfl, rfl, ?_⟩
        refine ⟨fun q hq => ?_, fun a ha => (ms_ne ha).trans (hO a ha)⟩
        have e : mu M1 o 0 (j : Int) o q = fu (M1 o) 0 (j : Int) q := by
          show ms M1 o (fu (M1 o) 0 (j : Int)) o q = _
          rw [ms_same]
        rw [e]
        exact ins_done (by omega) hsort hA hB (fun h => hK _ (Nat.le_refl _) h) (Or.inl rfl) q hq
      · exfalso; omega
    | succ k ih =>
      intro M1 hk hA hB hK hO
      have hM1 : St M1 b r := hM.off ⟨n6b, n7b⟩ (fun a h1 h2 => hO a (by omega))
      refine G.iload X 5 dX4_insert_3 rfl rfl ?_
      refine G.if_le X 40 8 dX4_insert_5 (by decide) rfl (by omega) (fun hc5 => ?_) (fun hc5 => ?_)
      · exfalso; omega
      · refine G.aload_n X 9 dX4_insert_8 rfl rfl ?_
        refine G.iload_n X 10 dX4_insert_9 rfl rfl ?_
        refine G.aload_n X 11 dX4_insert_10 rfl rfl ?_
        refine G.iload X 13 dX4_insert_11 rfl rfl ?_
        refine G.iconst X 14 dX4_insert_13 rfl ?_
        refine G.isub X 15 dX4_insert_14 rfl ?_
        refine G.iald X (i := k) 16 dX4_insert_15 rfl (hOA).1 ((hOA).2 _) (by omega) (by omega) (by decide) ?_
        rw [hA k (by omega)]
        refine G.iload X 18 dX4_insert_16 rfl rfl ?_
        refine G.vI3 (d := 3) X ml_X4_122 yv_X4_isAhead 21 dX4_insert_18 rfl (c_X4_isAhead0 l D Bs _ kd rf _ _ _ _ _ (hS) hV hM1 hj (hLm k (by omega))) ⟨_, _, (hS).1, rfl, rfl⟩ (by decide) ⟨Nat.zero_le _, Nat.zero_le _⟩ (Nat.le_of_ble_eq_true rfl) (fun r18 M18 h18 => ?_)
        obtain ⟨hr18, hm18⟩ := h18
        subst hr18
        obtain rfl := hm18.symm
        refine G.ifb_eq X 40 24 dX4_insert_21 (by decide) rfl (fun hc21 => ?_) (fun hc21 => ?_)
        · refine G.aload_n X 41 dX4_insert_40 rfl rfl ?_
          refine G.iload X 43 dX4_insert_41 rfl rfl ?_
          refine G.iload_n X 44 dX4_insert_43 rfl rfl ?_
          refine G.iast X (i := (k + 1)) 45 dX4_insert_44 rfl (hOA).1 ((hOA).2 _) rfl (by omega) (by decide) ?_
          refine G.vret X dX4_insert_45 ⟨Nat.le_refl _, Nat.le_refl _⟩ ⟨rfl, rfl, rfl, rfl, ?_⟩
          refine ⟨fun q hq => ?_, fun a ha => (ms_ne ha).trans (hO a ha)⟩
          have e : mu M1 o (k + 1) (j : Int) o q = fu (M1 o) (k + 1) (j : Int) q := by
            show ms M1 o (fu (M1 o) (k + 1) (j : Int)) o q = _
            rw [ms_same]
          rw [e]
          exact ins_done (by omega) hsort hA hB (fun h => hK _ (Nat.le_refl _) h) (Or.inr hc21) q hq
        · refine G.aload_n X 25 dX4_insert_24 rfl rfl ?_
          refine G.iload X 27 dX4_insert_25 rfl rfl ?_
          refine G.aload_n X 28 dX4_insert_27 rfl rfl ?_
          refine G.iload X 30 dX4_insert_28 rfl rfl ?_
          refine G.iconst X 31 dX4_insert_30 rfl ?_
          refine G.isub X 32 dX4_insert_31 rfl ?_
          refine G.iald X (i := k) 33 dX4_insert_32 rfl (hOA).1 ((hOA).2 _) (by omega) (by omega) (by decide) ?_
          refine G.iast X (i := (k + 1)) 34 dX4_insert_33 rfl (hOA).1 ((hOA).2 _) rfl (by omega) (by decide) ?_
          refine G.iinc (ls' := [_, _, _, _, _, _]) X 37 dX4_insert_34 rfl rfl (by decide) rfl ?_
          rw [show ((k + 1 : Nat) : Int) + -1 = (k : Int) by omega]
          refine G.goto X 3 dX4_insert_37 (by decide) ?_
          refine ih _ (by omega) (fun q hq => ?_) (fun q h1 h2 => ?_) (fun q h1 h2 => ?_) (fun a ha => (ms_ne ha).trans (hO a ha))
          · rw [mu_ne (Or.inr (by omega))]
            exact hA q (by omega)
          · by_cases e : q = k
            · subst e
              rw [mu_same]
              exact hA q (by omega)
            · rw [mu_ne (Or.inr (by omega))]
              exact hB q (by omega) h2
          · by_cases e : q = k
            · subst e
              exact hc21
            · exact hK q (by omega) h2
  refine G.iload_n X 1 dX4_insert_0 rfl rfl ?_
  refine G.istore (ls' := [_, _, _, _, _, _]) X 3 dX4_insert_1 rfl (by decide) rfl ?_
  exact L3 L.length M (Nat.le_refl _) hL (fun q h1 h2 => absurd h2 (by omega)) (fun q h1 h2 => absurd h2 (by omega)) (fun a _ => rfl)
set_option maxHeartbeats 4000000 in
set_option maxRecDepth 100000 in
theorem c_X4_insert1 (l : Launch) (D : xD) (Bs sz : Nat) (kd : xKd) (rf : xRf) (M : xM) (b o j : Nat) (L : List Nat) (r : xR) (hS : ShSt kd rf b) (hV : Vk r) (hM : St M b r) (hOA : IsA kd rf o 12) (ho : o < b ∨ b + 25 ≤ o) (hL : ∀ q, q < L.length → M o q = ((L.getD q 0 : Nat) : Int)) (hLn : L.length < 12) (hLm : ∀ q, q < L.length → L.getD q 0 < nC r) (hsort : SortK (tk r) L) (hj : j < nC r) (hxm : ∀ q, q < L.length → 0 < fC r (L.getD q 0) 4) (hxj : 0 < fC r j 4) : CtV l D Bs yX4_insert cX4_insert 6 none 4 [.ref b, .ref o, vi (L.length : Int), vi (j : Int), vi 1] sz kd rf M (fun M' => (∀ q, q < L.length + 1 → M' o q = (((insK (tk r) j L).getD q 0 : Nat) : Int)) ∧ ∀ a, a ≠ o → M' a = M a) := by
  refine Ctr.of (yv_X4_insert.1.2.2.2.2) (List.forall_mem_cons.mpr ⟨rfl, List.forall_mem_cons.mpr ⟨rfl, List.forall_mem_cons.mpr ⟨rfl, List.forall_mem_cons.mpr ⟨rfl, List.forall_mem_cons.mpr ⟨rfl, fun _ h => absurd h List.not_mem_nil⟩⟩⟩⟩⟩) (Nat.le_of_ble_eq_true rfl) [some (.ref b), some (.ref o), some (vi (L.length : Int)), some (vi (j : Int)), some (vi 1), none] rfl ?_
  intro p e s m args below meth c X hin
  obtain ⟨n6, n6b⟩ := hV.n6
  obtain ⟨n7, n7b⟩ := hV.n7
  have L3 : ∀ (k : Nat) (M1 : xM), k ≤ L.length → (∀ q, q < k → M1 o q = ((L.getD q 0 : Nat) : Int)) → (∀ q, k ≤ q → q < L.length → M1 o (q + 1) = ((L.getD q 0 : Nat) : Int)) → (∀ q, k ≤ q → q < L.length → tk r (L.getD q 0) < tk r j) → (∀ a, a ≠ o → M1 a = M a) → G p l e (rmd 4) s m args below meth c D Bs 6 0 0 (MQ below (xQ D Bs (pV sz kd rf (fun M' => (∀ q, q < L.length + 1 → M' o q = (((insK (tk r) j L).getD q 0 : Nat) : Int)) ∧ ∀ a, a ≠ o → M' a = M a))) args s 0 0 (fun q => Bs ≤ q)) sz kd rf (M1) 3 [some (.ref b), some (.ref o), some (vi (L.length : Int)), some (vi (j : Int)), some (vi 1), some (vi (k : Int))] [] := by
    intro k
    induction k with
    | zero =>
      intro M1 hk hA hB hK hO
      have hM1 : St M1 b r := hM.off ⟨n6b, n7b⟩ (fun a h1 h2 => hO a (by omega))
      refine G.iload X 5 dX4_insert_3 rfl rfl ?_
      refine G.if_le X 40 8 dX4_insert_5 (by decide) rfl (by omega) (fun hc5 => ?_) (fun hc5 => ?_)
      · refine G.aload_n X 41 dX4_insert_40 rfl rfl ?_
        refine G.iload X 43 dX4_insert_41 rfl rfl ?_
        refine G.iload_n X 44 dX4_insert_43 rfl rfl ?_
        refine G.iast X (i := 0) 45 dX4_insert_44 rfl (hOA).1 ((hOA).2 _) rfl (by omega) (by decide) ?_
        refine G.vret X dX4_insert_45 ⟨Nat.le_refl _, Nat.le_refl _⟩ ⟨rfl, rfl, rfl, rfl, ?_⟩
        refine ⟨fun q hq => ?_, fun a ha => (ms_ne ha).trans (hO a ha)⟩
        have e : mu M1 o 0 (j : Int) o q = fu (M1 o) 0 (j : Int) q := by
          show ms M1 o (fu (M1 o) 0 (j : Int)) o q = _
          rw [ms_same]
        rw [e]
        exact ins_done (by omega) hsort hA hB (fun h => hK _ (Nat.le_refl _) h) (Or.inl rfl) q hq
      · exfalso; omega
    | succ k ih =>
      intro M1 hk hA hB hK hO
      have hM1 : St M1 b r := hM.off ⟨n6b, n7b⟩ (fun a h1 h2 => hO a (by omega))
      refine G.iload X 5 dX4_insert_3 rfl rfl ?_
      refine G.if_le X 40 8 dX4_insert_5 (by decide) rfl (by omega) (fun hc5 => ?_) (fun hc5 => ?_)
      · exfalso; omega
      · refine G.aload_n X 9 dX4_insert_8 rfl rfl ?_
        refine G.iload_n X 10 dX4_insert_9 rfl rfl ?_
        refine G.aload_n X 11 dX4_insert_10 rfl rfl ?_
        refine G.iload X 13 dX4_insert_11 rfl rfl ?_
        refine G.iconst X 14 dX4_insert_13 rfl ?_
        refine G.isub X 15 dX4_insert_14 rfl ?_
        refine G.iald X (i := k) 16 dX4_insert_15 rfl (hOA).1 ((hOA).2 _) (by omega) (by omega) (by decide) ?_
        rw [hA k (by omega)]
        refine G.iload X 18 dX4_insert_16 rfl rfl ?_
        refine G.vI3 (d := 3) X ml_X4_122 yv_X4_isAhead 21 dX4_insert_18 rfl (c_X4_isAhead1 l D Bs _ kd rf _ _ _ _ _ (hS) hV hM1 hj (hLm k (by omega)) hxj (hxm k (by omega))) ⟨_, _, (hS).1, rfl, rfl⟩ (by decide) ⟨Nat.zero_le _, Nat.zero_le _⟩ (Nat.le_of_ble_eq_true rfl) (fun r18 M18 h18 => ?_)
        obtain ⟨hr18, hm18⟩ := h18
        subst hr18
        obtain rfl := hm18.symm
        refine G.ifb_eq X 40 24 dX4_insert_21 (by decide) rfl (fun hc21 => ?_) (fun hc21 => ?_)
        · refine G.aload_n X 41 dX4_insert_40 rfl rfl ?_
          refine G.iload X 43 dX4_insert_41 rfl rfl ?_
          refine G.iload_n X 44 dX4_insert_43 rfl rfl ?_
          refine G.iast X (i := (k + 1)) 45 dX4_insert_44 rfl (hOA).1 ((hOA).2 _) rfl (by omega) (by decide) ?_
          refine G.vret X dX4_insert_45 ⟨Nat.le_refl _, Nat.le_refl _⟩ ⟨rfl, rfl, rfl, rfl, ?_⟩
          refine ⟨fun q hq => ?_, fun a ha => (ms_ne ha).trans (hO a ha)⟩
          have e : mu M1 o (k + 1) (j : Int) o q = fu (M1 o) (k + 1) (j : Int) q := by
            show ms M1 o (fu (M1 o) (k + 1) (j : Int)) o q = _
            rw [ms_same]
          rw [e]
          exact ins_done (by omega) hsort hA hB (fun h => hK _ (Nat.le_refl _) h) (Or.inr hc21) q hq
        · refine G.aload_n X 25 dX4_insert_24 rfl rfl ?_
          refine G.iload X 27 dX4_insert_25 rfl rfl ?_
          refine G.aload_n X 28 dX4_insert_27 rfl rfl ?_
          refine G.iload X 30 dX4_insert_28 rfl rfl ?_
          refine G.iconst X 31 dX4_insert_30 rfl ?_
          refine G.isub X 32 dX4_insert_31 rfl ?_
          refine G.iald X (i := k) 33 dX4_insert_32 rfl (hOA).1 ((hOA).2 _) (by omega) (by omega) (by decide) ?_
          refine G.iast X (i := (k + 1)) 34 dX4_insert_33 rfl (hOA).1 ((hOA).2 _) rfl (by omega) (by decide) ?_
          refine G.iinc (ls' := [_, _, _, _, _, _]) X 37 dX4_insert_34 rfl rfl (by decide) rfl ?_
          rw [show ((k + 1 : Nat) : Int) + -1 = (k : Int) by omega]
          refine G.goto X 3 dX4_insert_37 (by decide) ?_
          refine ih _ (by omega) (fun q hq => ?_) (fun q h1 h2 => ?_) (fun q h1 h2 => ?_) (fun a ha => (ms_ne ha).trans (hO a ha))
          · rw [mu_ne (Or.inr (by omega))]
            exact hA q (by omega)
          · by_cases e : q = k
            · subst e
              rw [mu_same]
              exact hA q (by omega)
            · rw [mu_ne (Or.inr (by omega))]
              exact hB q (by omega) h2
          · by_cases e : q = k
            · subst e
              exact hc21
            · exact hK q (by omega) h2
  refine G.iload_n X 1 dX4_insert_0 rfl rfl ?_
  refine G.istore (ls' := [_, _, _, _, _, _]) X 3 dX4_insert_1 rfl (by decide) rfl ?_
  exact L3 L.length M (Nat.le_refl _) hL (fun q h1 h2 => absurd h2 (by omega)) (fun q h1 h2 => absurd h2 (by omega)) (fun a _ => rfl)
theorem hasB_iff {r : xR} {s : Nat} : hasB r s = true ↔ 0 < fC r s 4 := by
  unfold hasB
  exact decide_eq_true_iff
set_option maxHeartbeats 4000000 in
set_option maxRecDepth 100000 in
theorem c_X4_listOpen (l : Launch) (D : xD) (Bs sz : Nat) (kd : xKd) (rf : xRf) (M : xM) (b o : Nat) (r : xR) (hS : ShSt kd rf b) (hV : Vk r) (hM : St M b r) (hOA : IsA kd rf o 12) (ho : o < b ∨ b + 25 ≤ o) : CtI l D Bs yX4_listOpen cX4_listOpen 4 (some .int) 5 [.ref b, .ref o] sz kd rf M (fun q M' => q = (needL r).length ∧ (∀ q, q < (needL r).length → M' o q = (((needL r).getD q 0 : Nat) : Int)) ∧ ∀ a, a ≠ o → M' a = M a) := by
  refine Ctr.of (yv_X4_listOpen.1.2.2.2.2) (List.forall_mem_cons.mpr ⟨rfl, List.forall_mem_cons.mpr ⟨rfl, fun _ h => absurd h List.not_mem_nil⟩⟩) (Nat.le_of_ble_eq_true rfl) [some (.ref b), some (.ref o), none, none] rfl ?_
  intro p e s m args below meth c X hin
  obtain ⟨n6, n6b⟩ := hV.n6
  obtain ⟨n7, n7b⟩ := hV.n7
  obtain ⟨hb0, -, -, -, -, -, -, -, hb8⟩ := hM.1
  obtain ⟨hv0, -, -, -, -, -⟩ := hV.1
  have L4 : ∀ (k : Nat) (i : Nat) (M1 : xM), i + k = nC r → (∀ q, q < (sortK (nk r) (openB r) i).length → M1 o q = (((sortK (nk r) (openB r) i).getD q 0 : Nat) : Int)) → (∀ a, a ≠ o → M1 a = M a) → G p l e (rmd 5) s m args below meth c D Bs 4 0 0 (MQ below (xQ D Bs (pI sz kd rf (fun q M' => q = (needL r).length ∧ (∀ q, q < (needL r).length → M' o q = (((needL r).getD q 0 : Nat) : Int)) ∧ ∀ a, a ≠ o → M' a = M a))) args s 0 0 (fun q => Bs ≤ q)) sz kd rf (M1) 4 [some (.ref b), some (.ref o), some (vi ((sortK (nk r) (openB r) i).length : Int)), some (vi (i : Int))] [] := by
    intro k
    induction k with
    | zero =>
      intro i M1 hik hR hO
      have hM1 : St M1 b r := hM.off ⟨n6b, n7b⟩ (fun a h1 h2 => hO a (by omega))
      obtain ⟨hd0, -, -, -, -, -, -, -, hd8⟩ := hM1.1
      have hlen := sortK_len (nk r) (openB r) i
      have hcl := cntN_le (openB r) i
      have hmem : ∀ q, q < (sortK (nk r) (openB r) i).length → (sortK (nk r) (openB r) i).getD q 0 < i ∧ openB r ((sortK (nk r) (openB r) i).getD q 0) = true := fun q hq => sortK_mem.mp (by rw [show (sortK (nk r) (openB r) i).getD q 0 = (sortK (nk r) (openB r) i)[q] by simp [List.getD_eq_getElem?_getD, hq]]; exact List.getElem_mem hq)
      obtain rfl : i = nC r := by omega
      refine G.iload_n X 5 dX4_listOpen_4 rfl rfl ?_
      refine G.aload_n X 6 dX4_listOpen_5 rfl rfl ?_
      refine G.getI X fl_X4_50 9 dX4_listOpen_6 rfl (hS).1 ((hS).2.1 8 (by decide)) ?_
      refine G.icmp_ge X 45 12 dX4_listOpen_9 (by decide) rfl (by omega) (by omega) (fun hc9 => ?_) (fun hc9 => ?_)
      · refine G.iload_n X 46 dX4_listOpen_45 rfl rfl ?_
        refine G.iret X dX4_listOpen_46 ⟨Nat.le_refl _, Nat.le_refl _⟩ ⟨rfl, rfl, rfl, _, rfl, ?_⟩
        exact ⟨rfl, hR, hO⟩
      · exfalso; omega
    | succ k ih =>
      intro i M1 hik hR hO
      have hM1 : St M1 b r := hM.off ⟨n6b, n7b⟩ (fun a h1 h2 => hO a (by omega))
      obtain ⟨hd0, -, -, -, -, -, -, -, hd8⟩ := hM1.1
      have hlen := sortK_len (nk r) (openB r) i
      have hcl := cntN_le (openB r) i
      have hmem : ∀ q, q < (sortK (nk r) (openB r) i).length → (sortK (nk r) (openB r) i).getD q 0 < i ∧ openB r ((sortK (nk r) (openB r) i).getD q 0) = true := fun q hq => sortK_mem.mp (by rw [show (sortK (nk r) (openB r) i).getD q 0 = (sortK (nk r) (openB r) i)[q] by simp [List.getD_eq_getElem?_getD, hq]]; exact List.getElem_mem hq)
      obtain ⟨-, -, c2, c3, -, -, -, -, -⟩ := hM1.2.2 (i) (by omega)
      obtain ⟨-, -, w2, w3, -, -, -⟩ := hV.2.2 (i) (by omega)
      refine G.iload_n X 5 dX4_listOpen_4 rfl rfl ?_
      refine G.aload_n X 6 dX4_listOpen_5 rfl rfl ?_
      refine G.getI X fl_X4_50 9 dX4_listOpen_6 rfl (hS).1 ((hS).2.1 8 (by decide)) ?_
      refine G.icmp_ge X 45 12 dX4_listOpen_9 (by decide) rfl (by omega) (by omega) (fun hc9 => ?_) (fun hc9 => ?_)
      · exfalso; omega
      · refine G.aload_n X 13 dX4_listOpen_12 rfl rfl ?_
        refine G.getR X fl_X4_26 16 dX4_listOpen_13 rfl (hS).1 (hS).2.2.2.1 ?_
        refine G.iload_n X 17 dX4_listOpen_16 rfl rfl ?_
        refine G.aald X 18 dX4_listOpen_17 rfl (ShSt.kc hS) (by decide) (ShSt.rc hS (by omega)) rfl (by omega) (by decide) ?_
        refine G.aload_n X 19 dX4_listOpen_18 rfl rfl ?_
        refine G.getI X fl_X4_32 22 dX4_listOpen_19 rfl (hS).1 ((hS).2.1 0 (by decide)) ?_
        refine G.vI1 (d := 0) X ml_X4_115 yv_X0_isOpenIn 25 dX4_listOpen_22 rfl (c_X0_isOpenIn l D Bs _ kd rf _ _ _ (ShSt.c hS (by omega)) (by omega) (by omega) (by omega)) ⟨_, _, (ShSt.c hS (by omega)).1, rfl, rfl⟩ (by decide) ⟨Nat.zero_le _, Nat.zero_le _⟩ (Nat.le_of_ble_eq_true rfl) (fun r22 M22 h22 => ?_)
        obtain ⟨hr22, hm22⟩ := h22
        subst hr22
        obtain rfl := hm22.symm
        refine G.ifb_eq X 39 28 dX4_listOpen_25 (by decide) rfl (fun hc25 => ?_) (fun hc25 => ?_)
        · refine G.iinc (ls' := [_, _, _, _]) X 42 dX4_listOpen_39 rfl rfl (by decide) rfl ?_
          refine G.goto X 4 dX4_listOpen_42 (by decide) ?_
          first
            | (have e : sortK (nk r) (openB r) (i + 1) = insK (nk r) i (sortK (nk r) (openB r) i) := by rw [sortK_s, if_pos (openB_iff.mpr (by omega))]
               refine G.eqv (ls' := [some (.ref b), some (.ref o), some (vi ((sortK (nk r) (openB r) (i + 1)).length : Int)), some (vi ((i + 1 : Nat) : Int))]) (by rw [e, insK_len]; rfl) rfl ?_
               refine ih (i + 1) _ (by omega) (fun q hq => ?_) (fun a ha => (h33.2 a ha).trans (hO a ha))
               rw [e]
               exact h33.1 q (by rw [e, insK_len] at hq; exact hq))
            | (have e : sortK (nk r) (openB r) (i + 1) = sortK (nk r) (openB r) i := by rw [sortK_s, if_neg (fun q => by have := openB_iff.mp q; omega)]
               refine G.eqv (ls' := [some (.ref b), some (.ref o), some (vi ((sortK (nk r) (openB r) (i + 1)).length : Int)), some (vi ((i + 1 : Nat) : Int))]) (by rw [e]; rfl) rfl ?_
               refine ih (i + 1) _ (by omega) (fun q hq => ?_) hO
               rw [e]
               exact hR q (by rw [e] at hq; exact hq))
        · refine G.aload_n X 29 dX4_listOpen_28 rfl rfl ?_
          refine G.aload_n X 30 dX4_listOpen_29 rfl rfl ?_
          refine G.iload_n X 31 dX4_listOpen_30 rfl rfl ?_
          refine G.iload_n X 32 dX4_listOpen_31 rfl rfl ?_
          refine G.iconst X 33 dX4_listOpen_32 rfl ?_
          refine G.vV4 (d := 4) X ml_X4_118 yv_X4_insert 36 dX4_listOpen_33 rfl (c_X4_insert0 l D Bs _ kd rf _ b o i (sortK (nk r) (openB r) i) r (hS) hV hM1 hOA ho hR (by omega) (fun q hq => by have := (hmem q hq).1; omega) (sortK_sort _ _ _) (by omega)) ⟨_, _, (hS).1, rfl, rfl⟩ (by decide) ⟨Nat.zero_le _, Nat.zero_le _⟩ (Nat.le_of_ble_eq_true rfl) (fun M33 h33 => ?_)
          refine G.iinc (ls' := [_, _, _, _]) X 39 dX4_listOpen_36 rfl rfl (by decide) rfl ?_
          refine G.iinc (ls' := [_, _, _, _]) X 42 dX4_listOpen_39 rfl rfl (by decide) rfl ?_
          refine G.goto X 4 dX4_listOpen_42 (by decide) ?_
          first
            | (have e : sortK (nk r) (openB r) (i + 1) = insK (nk r) i (sortK (nk r) (openB r) i) := by rw [sortK_s, if_pos (openB_iff.mpr (by omega))]
               refine G.eqv (ls' := [some (.ref b), some (.ref o), some (vi ((sortK (nk r) (openB r) (i + 1)).length : Int)), some (vi ((i + 1 : Nat) : Int))]) (by rw [e, insK_len]; rfl) rfl ?_
               refine ih (i + 1) _ (by omega) (fun q hq => ?_) (fun a ha => (h33.2 a ha).trans (hO a ha))
               rw [e]
               exact h33.1 q (by rw [e, insK_len] at hq; exact hq))
            | (have e : sortK (nk r) (openB r) (i + 1) = sortK (nk r) (openB r) i := by rw [sortK_s, if_neg (fun q => by have := openB_iff.mp q; omega)]
               refine G.eqv (ls' := [some (.ref b), some (.ref o), some (vi ((sortK (nk r) (openB r) (i + 1)).length : Int)), some (vi ((i + 1 : Nat) : Int))]) (by rw [e]; rfl) rfl ?_
               refine ih (i + 1) _ (by omega) (fun q hq => ?_) hO
               rw [e]
               exact hR q (by rw [e] at hq; exact hq))
  refine G.iconst X 1 dX4_listOpen_0 rfl ?_
  refine G.istore_n (ls' := [_, _, _, _]) X 2 dX4_listOpen_1 rfl (by decide) rfl ?_
  refine G.iconst X 3 dX4_listOpen_2 rfl ?_
  refine G.istore_n (ls' := [_, _, _, _]) X 4 dX4_listOpen_3 rfl (by decide) rfl ?_
  exact L4 (nC r) 0 M (by omega) (fun q hq => absurd hq (Nat.not_lt_zero q)) (fun a _ => rfl)
set_option maxHeartbeats 4000000 in
set_option maxRecDepth 100000 in
theorem c_X4_listSupplied (l : Launch) (D : xD) (Bs sz : Nat) (kd : xKd) (rf : xRf) (M : xM) (b o : Nat) (r : xR) (hS : ShSt kd rf b) (hV : Vk r) (hM : St M b r) (hOA : IsA kd rf o 12) (ho : o < b ∨ b + 25 ≤ o) : CtI l D Bs yX4_listSupplied cX4_listSupplied 4 (some .int) 5 [.ref b, .ref o] sz kd rf M (fun q M' => q = (thirL r).length ∧ (∀ q, q < (thirL r).length → M' o q = (((thirL r).getD q 0 : Nat) : Int)) ∧ ∀ a, a ≠ o → M' a = M a) := by
  refine Ctr.of (yv_X4_listSupplied.1.2.2.2.2) (List.forall_mem_cons.mpr ⟨rfl, List.forall_mem_cons.mpr ⟨rfl, fun _ h => absurd h List.not_mem_nil⟩⟩) (Nat.le_of_ble_eq_true rfl) [some (.ref b), some (.ref o), none, none] rfl ?_
  intro p e s m args below meth c X hin
  obtain ⟨n6, n6b⟩ := hV.n6
  obtain ⟨n7, n7b⟩ := hV.n7
  obtain ⟨hb0, -, -, -, -, -, -, -, hb8⟩ := hM.1
  obtain ⟨hv0, -, -, -, -, -⟩ := hV.1
  have L4 : ∀ (k : Nat) (i : Nat) (M1 : xM), i + k = nC r → (∀ q, q < (sortK (tk r) (hasB r) i).length → M1 o q = (((sortK (tk r) (hasB r) i).getD q 0 : Nat) : Int)) → (∀ a, a ≠ o → M1 a = M a) → G p l e (rmd 5) s m args below meth c D Bs 4 0 0 (MQ below (xQ D Bs (pI sz kd rf (fun q M' => q = (thirL r).length ∧ (∀ q, q < (thirL r).length → M' o q = (((thirL r).getD q 0 : Nat) : Int)) ∧ ∀ a, a ≠ o → M' a = M a))) args s 0 0 (fun q => Bs ≤ q)) sz kd rf (M1) 4 [some (.ref b), some (.ref o), some (vi ((sortK (tk r) (hasB r) i).length : Int)), some (vi (i : Int))] [] := by
    intro k
    induction k with
    | zero =>
      intro i M1 hik hR hO
      have hM1 : St M1 b r := hM.off ⟨n6b, n7b⟩ (fun a h1 h2 => hO a (by omega))
      obtain ⟨hd0, -, -, -, -, -, -, -, hd8⟩ := hM1.1
      have hlen := sortK_len (tk r) (hasB r) i
      have hcl := cntN_le (hasB r) i
      have hmem : ∀ q, q < (sortK (tk r) (hasB r) i).length → (sortK (tk r) (hasB r) i).getD q 0 < i ∧ hasB r ((sortK (tk r) (hasB r) i).getD q 0) = true := fun q hq => sortK_mem.mp (by rw [show (sortK (tk r) (hasB r) i).getD q 0 = (sortK (tk r) (hasB r) i)[q] by simp [List.getD_eq_getElem?_getD, hq]]; exact List.getElem_mem hq)
      obtain rfl : i = nC r := by omega
      refine G.iload_n X 5 dX4_listSupplied_4 rfl rfl ?_
      refine G.aload_n X 6 dX4_listSupplied_5 rfl rfl ?_
      refine G.getI X fl_X4_50 9 dX4_listSupplied_6 rfl (hS).1 ((hS).2.1 8 (by decide)) ?_
      refine G.icmp_ge X 43 12 dX4_listSupplied_9 (by decide) rfl (by omega) (by omega) (fun hc9 => ?_) (fun hc9 => ?_)
      · refine G.iload_n X 44 dX4_listSupplied_43 rfl rfl ?_
        refine G.iret X dX4_listSupplied_44 ⟨Nat.le_refl _, Nat.le_refl _⟩ ⟨rfl, rfl, rfl, _, rfl, ?_⟩
        exact ⟨rfl, hR, hO⟩
      · exfalso; omega
    | succ k ih =>
      intro i M1 hik hR hO
      have hM1 : St M1 b r := hM.off ⟨n6b, n7b⟩ (fun a h1 h2 => hO a (by omega))
      obtain ⟨hd0, -, -, -, -, -, -, -, hd8⟩ := hM1.1
      have hlen := sortK_len (tk r) (hasB r) i
      have hcl := cntN_le (hasB r) i
      have hmem : ∀ q, q < (sortK (tk r) (hasB r) i).length → (sortK (tk r) (hasB r) i).getD q 0 < i ∧ hasB r ((sortK (tk r) (hasB r) i).getD q 0) = true := fun q hq => sortK_mem.mp (by rw [show (sortK (tk r) (hasB r) i).getD q 0 = (sortK (tk r) (hasB r) i)[q] by simp [List.getD_eq_getElem?_getD, hq]]; exact List.getElem_mem hq)
      obtain ⟨-, -, -, -, c4, -, -, -, -⟩ := hM1.2.2 (i) (by omega)
      obtain ⟨-, -, -, -, w4, -, -⟩ := hV.2.2 (i) (by omega)
      refine G.iload_n X 5 dX4_listSupplied_4 rfl rfl ?_
      refine G.aload_n X 6 dX4_listSupplied_5 rfl rfl ?_
      refine G.getI X fl_X4_50 9 dX4_listSupplied_6 rfl (hS).1 ((hS).2.1 8 (by decide)) ?_
      refine G.icmp_ge X 43 12 dX4_listSupplied_9 (by decide) rfl (by omega) (by omega) (fun hc9 => ?_) (fun hc9 => ?_)
      · exfalso; omega
      · refine G.aload_n X 13 dX4_listSupplied_12 rfl rfl ?_
        refine G.getR X fl_X4_26 16 dX4_listSupplied_13 rfl (hS).1 (hS).2.2.2.1 ?_
        refine G.iload_n X 17 dX4_listSupplied_16 rfl rfl ?_
        refine G.aald X 18 dX4_listSupplied_17 rfl (ShSt.kc hS) (by decide) (ShSt.rc hS (by omega)) rfl (by omega) (by decide) ?_
        refine G.getI X fl_X4_90 21 dX4_listSupplied_18 rfl (ShSt.c hS (by omega)).1 ((ShSt.c hS (by omega)).2 4) ?_
        refine G.bipush X 23 dX4_listSupplied_21 rfl (by decide) ?_
        refine G.icmp_eq X 37 26 dX4_listSupplied_23 (by decide) rfl (by omega) (by omega) (fun hc23 => ?_) (fun hc23 => ?_)
        · refine G.iinc (ls' := [_, _, _, _]) X 40 dX4_listSupplied_37 rfl rfl (by decide) rfl ?_
          refine G.goto X 4 dX4_listSupplied_40 (by decide) ?_
          first
            | (have e : sortK (tk r) (hasB r) (i + 1) = insK (tk r) i (sortK (tk r) (hasB r) i) := by rw [sortK_s, if_pos (hasB_iff.mpr (by omega))]
               refine G.eqv (ls' := [some (.ref b), some (.ref o), some (vi ((sortK (tk r) (hasB r) (i + 1)).length : Int)), some (vi ((i + 1 : Nat) : Int))]) (by rw [e, insK_len]; rfl) rfl ?_
               refine ih (i + 1) _ (by omega) (fun q hq => ?_) (fun a ha => (h31.2 a ha).trans (hO a ha))
               rw [e]
               exact h31.1 q (by rw [e, insK_len] at hq; exact hq))
            | (have e : sortK (tk r) (hasB r) (i + 1) = sortK (tk r) (hasB r) i := by rw [sortK_s, if_neg (fun q => by have := hasB_iff.mp q; omega)]
               refine G.eqv (ls' := [some (.ref b), some (.ref o), some (vi ((sortK (tk r) (hasB r) (i + 1)).length : Int)), some (vi ((i + 1 : Nat) : Int))]) (by rw [e]; rfl) rfl ?_
               refine ih (i + 1) _ (by omega) (fun q hq => ?_) hO
               rw [e]
               exact hR q (by rw [e] at hq; exact hq))
        · refine G.aload_n X 27 dX4_listSupplied_26 rfl rfl ?_
          refine G.aload_n X 28 dX4_listSupplied_27 rfl rfl ?_
          refine G.iload_n X 29 dX4_listSupplied_28 rfl rfl ?_
          refine G.iload_n X 30 dX4_listSupplied_29 rfl rfl ?_
          refine G.iconst X 31 dX4_listSupplied_30 rfl ?_
          refine G.vV4 (d := 4) X ml_X4_118 yv_X4_insert 34 dX4_listSupplied_31 rfl (c_X4_insert1 l D Bs _ kd rf _ b o i (sortK (tk r) (hasB r) i) r (hS) hV hM1 hOA ho hR (by omega) (fun q hq => by have := (hmem q hq).1; omega) (sortK_sort _ _ _) (by omega) (fun q hq => hasB_iff.mp (hmem q hq).2) (by omega)) ⟨_, _, (hS).1, rfl, rfl⟩ (by decide) ⟨Nat.zero_le _, Nat.zero_le _⟩ (Nat.le_of_ble_eq_true rfl) (fun M31 h31 => ?_)
          refine G.iinc (ls' := [_, _, _, _]) X 37 dX4_listSupplied_34 rfl rfl (by decide) rfl ?_
          refine G.iinc (ls' := [_, _, _, _]) X 40 dX4_listSupplied_37 rfl rfl (by decide) rfl ?_
          refine G.goto X 4 dX4_listSupplied_40 (by decide) ?_
          first
            | (have e : sortK (tk r) (hasB r) (i + 1) = insK (tk r) i (sortK (tk r) (hasB r) i) := by rw [sortK_s, if_pos (hasB_iff.mpr (by omega))]
               refine G.eqv (ls' := [some (.ref b), some (.ref o), some (vi ((sortK (tk r) (hasB r) (i + 1)).length : Int)), some (vi ((i + 1 : Nat) : Int))]) (by rw [e, insK_len]; rfl) rfl ?_
               refine ih (i + 1) _ (by omega) (fun q hq => ?_) (fun a ha => (h31.2 a ha).trans (hO a ha))
               rw [e]
               exact h31.1 q (by rw [e, insK_len] at hq; exact hq))
            | (have e : sortK (tk r) (hasB r) (i + 1) = sortK (tk r) (hasB r) i := by rw [sortK_s, if_neg (fun q => by have := hasB_iff.mp q; omega)]
               refine G.eqv (ls' := [some (.ref b), some (.ref o), some (vi ((sortK (tk r) (hasB r) (i + 1)).length : Int)), some (vi ((i + 1 : Nat) : Int))]) (by rw [e]; rfl) rfl ?_
               refine ih (i + 1) _ (by omega) (fun q hq => ?_) hO
               rw [e]
               exact hR q (by rw [e] at hq; exact hq))
  refine G.iconst X 1 dX4_listSupplied_0 rfl ?_
  refine G.istore_n (ls' := [_, _, _, _]) X 2 dX4_listSupplied_1 rfl (by decide) rfl ?_
  refine G.iconst X 3 dX4_listSupplied_2 rfl ?_
  refine G.istore_n (ls' := [_, _, _, _]) X 4 dX4_listSupplied_3 rfl (by decide) rfl ?_
  exact L4 (nC r) 0 M (by omega) (fun q hq => absurd hq (Nat.not_lt_zero q)) (fun a _ => rfl)
