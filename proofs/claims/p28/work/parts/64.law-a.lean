def dg1 (r : xR) : Nat → Int64
  | 0 => 83
  | n + 1 => 31 * dg1 r n + (Int32.ofInt (cntF (n : Int) r 0 0)).toInt64
def dgS (r : xR) (m : Nat) (x : Int64) : Nat → Int64
  | 0 => x
  | n + 1 => 31 * dgS r m x n + (Int32.ofInt (setF (m : Int) (n : Int) r)).toInt64
def dg2 (r : xR) : Nat → Int64
  | 0 => dg1 r 15
  | m + 1 => dgS r m (dg2 r m) 10
def dgC (r : xR) (m : Nat) (x : Int64) : Nat → Int64
  | 0 => x
  | n + 1 => 31 * dgC r m x n + (Int32.ofInt (sitF (m : Int) (n : Int) r)).toInt64
def dg3 (r : xR) : Nat → Int64
  | 0 => dg2 r (nS r)
  | m + 1 => dgC r m (dg3 r m) 10
/-- the law's digest, a number of the row alone -/
def dgF (r : xR) : Int64 := dg3 r (nC r)
theorem cntF_15 {r : xR} {k hl tl : Int} (hk : k < 15) : cntF k r hl tl = cntF k r 0 0 := by
  unfold cntF
  rw [if_neg (show ¬ k = 15 by omega), if_neg (show ¬ k = 16 by omega), if_neg (show ¬ k = 15 by omega), if_neg (show ¬ k = 16 by omega)]
set_option maxHeartbeats 2000000 in
set_option maxRecDepth 100000 in
theorem c_L_digest (l : Launch) (D : xD) (Bs sz : Nat) (kd : xKd) (rf : xRf) (M : xM) (a : Nat) (r : xR) (h : List xR) (sn : Option xR) (hO : Ob kd rf a M r h sn) : CtJ l D Bs yL_digest cL_digest 5 (some .long) 7 [.ref a] sz kd rf M (fun q M' => q = dgF r ∧ Ob kd rf a M' r h sn) := by
  refine Ctr.of (ys_L_digest.1.2.2.2.2) (List.forall_mem_cons.mpr ⟨rfl, fun _ h => absurd h List.not_mem_nil⟩) (Nat.le_of_ble_eq_true rfl) [some (.ref a), none, none, none, none] rfl ?_
  intro p e s m args below meth c X hin
  obtain ⟨hX, hI, hC⟩ := id hO
  have hV := hI.1.1.1
  have hJ := hI.1.2
  obtain ⟨n6, n6b⟩ := hV.n6
  obtain ⟨n7, n7b⟩ := hV.n7
  have L95 : ∀ (k : Nat) (w i : Nat) (x y : Int64) (M : xM), w + k = 10 → i < nC r → y = dgC r i x w → (∀ M, Ob kd rf a M r h sn → G p l e (rmd 7) s m args below meth c D Bs 5 0 0 (MQ below (xQ D Bs (pJ sz kd rf (fun q M' => q = dgF r ∧ Ob kd rf a M' r h sn))) args s 0 0 (fun q => Bs ≤ q)) sz kd rf (M) 123 [some (.ref a), some (.long (dgC r i x 10)), none, some (vi (i : Int)), none] []) → Ob kd rf a M r h sn → G p l e (rmd 7) s m args below meth c D Bs 5 0 0 (MQ below (xQ D Bs (pJ sz kd rf (fun q M' => q = dgF r ∧ Ob kd rf a M' r h sn))) args s 0 0 (fun q => Bs ≤ q)) sz kd rf (M) 95 [some (.ref a), some (.long y), none, some (vi (i : Int)), some (vi (w : Int))] [] := by
    intro k
    induction k with
    | zero =>
      intro w i x y M hwk hi hy next hO
      have hw : w = 10 := by omega
      subst hw
      refine G.iload X 97 dL_digest_95 rfl rfl ?_
      refine G.bipush X 99 dL_digest_97 rfl (by decide) ?_
      refine G.icmp_ge X 123 102 dL_digest_99 (by decide) rfl (by omega) (by omega) (fun hc99 => ?_) (fun hc99 => by exfalso; omega)
      refine G.drop 4 ?_
      rw [hy]
      exact next M hO
    | succ k ih =>
      intro w i x y M hwk hi hy next hO
      have hw : w < 10 := by omega
      refine G.iload X 97 dL_digest_95 rfl rfl ?_
      refine G.bipush X 99 dL_digest_97 rfl (by decide) ?_
      refine G.icmp_ge X 123 102 dL_digest_99 (by decide) rfl (by omega) (by omega) (fun hc99 => by exfalso; omega) (fun hc99 => ?_)
      refine G.ldc2 X ko_L_11 105 dL_digest_102 rfl ?_
      refine G.lload_n X 106 dL_digest_105 rfl rfl ?_
      refine G.lmul X 107 dL_digest_106 rfl ?_
      refine G.aload_n X 108 dL_digest_107 rfl rfl ?_
      refine G.iload_n X 109 dL_digest_108 rfl rfl ?_
      refine G.iload X 111 dL_digest_109 rfl rfl ?_
      refine GS.site X hO ml_L_23 114 dL_digest_111 rfl (rfl) (by omega) (by omega) (by decide) ⟨Nat.zero_le _, Nat.zero_le _⟩ (Nat.le_of_ble_eq_true rfl) ?_
      refine G.i2l X 115 dL_digest_114 rfl ?_
      refine G.ladd X 116 dL_digest_115 rfl ?_
      refine G.lstore_n (ls' := [_, _, _, _, _]) X 117 dL_digest_116 rfl (by decide) rfl rfl ?_
      refine G.iinc (ls' := [_, _, _, _, _]) X 120 dL_digest_117 rfl rfl (by decide) rfl ?_
      refine G.goto X 95 dL_digest_120 (by decide) ?_
      exact ih (w + 1) i x _ M (by omega) hi (by rw [hy]; rfl) next hO
  have L82 : ∀ (k : Nat) (i : Nat) (x : Int64) (M : xM), i + k = nC r → x = dg3 r i → Ob kd rf a M r h sn → G p l e (rmd 7) s m args below meth c D Bs 5 0 0 (MQ below (xQ D Bs (pJ sz kd rf (fun q M' => q = dgF r ∧ Ob kd rf a M' r h sn))) args s 0 0 (fun q => Bs ≤ q)) sz kd rf (M) 82 [some (.ref a), some (.long x), none, some (vi (i : Int)), none] [] := by
    intro k
    induction k with
    | zero =>
      intro i x M hik hx hO
      have hi : i = nC r := by omega
      subst hi
      subst hx
      refine G.iload_n X 83 dL_digest_82 rfl rfl ?_
      refine G.aload_n X 84 dL_digest_83 rfl rfl ?_
      refine G.bipush X 86 dL_digest_84 rfl (by decide) ?_
      refine GS.count X hO ml_L_13 89 dL_digest_86 rfl (cnt_9) (by decide) (by decide) ⟨Nat.zero_le _, Nat.zero_le _⟩ (Nat.le_of_ble_eq_true rfl) (fun M hO => ?_)
      refine G.icmp_ge X 129 92 dL_digest_89 (by decide) rfl (by omega) (by omega) (fun hc89 => ?_) (fun hc89 => by exfalso; omega)
      refine G.lload_n X 130 dL_digest_129 rfl rfl ?_
      refine G.jret X dL_digest_130 ⟨Nat.le_refl _, Nat.le_refl _⟩ ⟨rfl, rfl, rfl, _, rfl, ?_⟩
      exact ⟨rfl, hO⟩
    | succ k ih =>
      intro i x M hik hx hO
      have hi : i < nC r := by omega
      refine G.iload_n X 83 dL_digest_82 rfl rfl ?_
      refine G.aload_n X 84 dL_digest_83 rfl rfl ?_
      refine G.bipush X 86 dL_digest_84 rfl (by decide) ?_
      refine GS.count X hO ml_L_13 89 dL_digest_86 rfl (cnt_9) (by decide) (by decide) ⟨Nat.zero_le _, Nat.zero_le _⟩ (Nat.le_of_ble_eq_true rfl) (fun M hO => ?_)
      refine G.icmp_ge X 129 92 dL_digest_89 (by decide) rfl (by omega) (by omega) (fun hc89 => by exfalso; omega) (fun hc89 => ?_)
      refine G.iconst X 93 dL_digest_92 rfl ?_
      refine G.istore (ls' := [_, _, _, _, _]) X 95 dL_digest_93 rfl (by decide) rfl ?_
      refine L95 10 0 i x _ M (by omega) hi rfl (fun M hO => ?_) hO
      refine G.iinc (ls' := [_, _, _, _, _]) X 126 dL_digest_123 rfl rfl (by decide) rfl ?_
      refine G.goto X 82 dL_digest_126 (by decide) ?_
      exact ih (i + 1) _ M (by omega) (by rw [hx]; rfl) hO
  have L46 : ∀ (k : Nat) (w i : Nat) (x y : Int64) (M : xM), w + k = 10 → i < nS r → y = dgS r i x w → (∀ M, Ob kd rf a M r h sn → G p l e (rmd 7) s m args below meth c D Bs 5 0 0 (MQ below (xQ D Bs (pJ sz kd rf (fun q M' => q = dgF r ∧ Ob kd rf a M' r h sn))) args s 0 0 (fun q => Bs ≤ q)) sz kd rf (M) 74 [some (.ref a), some (.long (dgS r i x 10)), none, some (vi (i : Int)), none] []) → Ob kd rf a M r h sn → G p l e (rmd 7) s m args below meth c D Bs 5 0 0 (MQ below (xQ D Bs (pJ sz kd rf (fun q M' => q = dgF r ∧ Ob kd rf a M' r h sn))) args s 0 0 (fun q => Bs ≤ q)) sz kd rf (M) 46 [some (.ref a), some (.long y), none, some (vi (i : Int)), some (vi (w : Int))] [] := by
    intro k
    induction k with
    | zero =>
      intro w i x y M hwk hi hy next hO
      have hw : w = 10 := by omega
      subst hw
      refine G.iload X 48 dL_digest_46 rfl rfl ?_
      refine G.bipush X 50 dL_digest_48 rfl (by decide) ?_
      refine G.icmp_ge X 74 53 dL_digest_50 (by decide) rfl (by omega) (by omega) (fun hc50 => ?_) (fun hc50 => by exfalso; omega)
      refine G.drop 4 ?_
      rw [hy]
      exact next M hO
    | succ k ih =>
      intro w i x y M hwk hi hy next hO
      have hw : w < 10 := by omega
      refine G.iload X 48 dL_digest_46 rfl rfl ?_
      refine G.bipush X 50 dL_digest_48 rfl (by decide) ?_
      refine G.icmp_ge X 74 53 dL_digest_50 (by decide) rfl (by omega) (by omega) (fun hc50 => by exfalso; omega) (fun hc50 => ?_)
      refine G.ldc2 X ko_L_11 56 dL_digest_53 rfl ?_
      refine G.lload_n X 57 dL_digest_56 rfl rfl ?_
      refine G.lmul X 58 dL_digest_57 rfl ?_
      refine G.aload_n X 59 dL_digest_58 rfl rfl ?_
      refine G.iload_n X 60 dL_digest_59 rfl rfl ?_
      refine G.iload X 62 dL_digest_60 rfl rfl ?_
      refine GS.set X hO ml_L_19 65 dL_digest_62 rfl (rfl) (by omega) (by omega) (by decide) ⟨Nat.zero_le _, Nat.zero_le _⟩ (Nat.le_of_ble_eq_true rfl) ?_
      refine G.i2l X 66 dL_digest_65 rfl ?_
      refine G.ladd X 67 dL_digest_66 rfl ?_
      refine G.lstore_n (ls' := [_, _, _, _, _]) X 68 dL_digest_67 rfl (by decide) rfl rfl ?_
      refine G.iinc (ls' := [_, _, _, _, _]) X 71 dL_digest_68 rfl rfl (by decide) rfl ?_
      refine G.goto X 46 dL_digest_71 (by decide) ?_
      exact ih (w + 1) i x _ M (by omega) hi (by rw [hy]; rfl) next hO
  have L33 : ∀ (k : Nat) (i : Nat) (x : Int64) (M : xM), i + k = nS r → x = dg2 r i → Ob kd rf a M r h sn → G p l e (rmd 7) s m args below meth c D Bs 5 0 0 (MQ below (xQ D Bs (pJ sz kd rf (fun q M' => q = dgF r ∧ Ob kd rf a M' r h sn))) args s 0 0 (fun q => Bs ≤ q)) sz kd rf (M) 33 [some (.ref a), some (.long x), none, some (vi (i : Int)), none] [] := by
    intro k
    induction k with
    | zero =>
      intro i x M hik hx hO
      have hi : i = nS r := by omega
      subst hi
      subst hx
      refine G.iload_n X 34 dL_digest_33 rfl rfl ?_
      refine G.aload_n X 35 dL_digest_34 rfl rfl ?_
      refine G.bipush X 37 dL_digest_35 rfl (by decide) ?_
      refine GS.count X hO ml_L_13 40 dL_digest_37 rfl (cnt_7) (by decide) (by decide) ⟨Nat.zero_le _, Nat.zero_le _⟩ (Nat.le_of_ble_eq_true rfl) (fun M hO => ?_)
      refine G.icmp_ge X 80 43 dL_digest_40 (by decide) rfl (by omega) (by omega) (fun hc40 => ?_) (fun hc40 => by exfalso; omega)
      refine G.iconst X 81 dL_digest_80 rfl ?_
      refine G.istore_n (ls' := [_, _, _, _, _]) X 82 dL_digest_81 rfl (by decide) rfl ?_
      exact L82 (nC r) 0 _ M (by omega) rfl hO
    | succ k ih =>
      intro i x M hik hx hO
      have hi : i < nS r := by omega
      refine G.iload_n X 34 dL_digest_33 rfl rfl ?_
      refine G.aload_n X 35 dL_digest_34 rfl rfl ?_
      refine G.bipush X 37 dL_digest_35 rfl (by decide) ?_
      refine GS.count X hO ml_L_13 40 dL_digest_37 rfl (cnt_7) (by decide) (by decide) ⟨Nat.zero_le _, Nat.zero_le _⟩ (Nat.le_of_ble_eq_true rfl) (fun M hO => ?_)
      refine G.icmp_ge X 80 43 dL_digest_40 (by decide) rfl (by omega) (by omega) (fun hc40 => by exfalso; omega) (fun hc40 => ?_)
      refine G.iconst X 44 dL_digest_43 rfl ?_
      refine G.istore (ls' := [_, _, _, _, _]) X 46 dL_digest_44 rfl (by decide) rfl ?_
      refine L46 10 0 i x _ M (by omega) hi rfl (fun M hO => ?_) hO
      refine G.iinc (ls' := [_, _, _, _, _]) X 77 dL_digest_74 rfl rfl (by decide) rfl ?_
      refine G.goto X 33 dL_digest_77 (by decide) ?_
      exact ih (i + 1) _ M (by omega) (by rw [hx]; rfl) hO
  have L6 : ∀ (k : Nat) (i : Nat) (x : Int64) (M : xM), i + k = 15 → x = dg1 r i → Ob kd rf a M r h sn → G p l e (rmd 7) s m args below meth c D Bs 5 0 0 (MQ below (xQ D Bs (pJ sz kd rf (fun q M' => q = dgF r ∧ Ob kd rf a M' r h sn))) args s 0 0 (fun q => Bs ≤ q)) sz kd rf (M) 6 [some (.ref a), some (.long x), none, some (vi (i : Int)), none] [] := by
    intro k
    induction k with
    | zero =>
      intro i x M hik hx hO
      have hi : i = 15 := by omega
      subst hi
      subst hx
      refine G.iload_n X 7 dL_digest_6 rfl rfl ?_
      refine G.bipush X 9 dL_digest_7 rfl (by decide) ?_
      refine G.icmp_ge X 31 12 dL_digest_9 (by decide) rfl (by omega) (by omega) (fun hc9 => ?_) (fun hc9 => by exfalso; omega)
      refine G.iconst X 32 dL_digest_31 rfl ?_
      refine G.istore_n (ls' := [_, _, _, _, _]) X 33 dL_digest_32 rfl (by decide) rfl ?_
      exact L33 (nS r) 0 _ M (by omega) rfl hO
    | succ k ih =>
      intro i x M hik hx hO
      have hi : i < 15 := by omega
      refine G.iload_n X 7 dL_digest_6 rfl rfl ?_
      refine G.bipush X 9 dL_digest_7 rfl (by decide) ?_
      refine G.icmp_ge X 31 12 dL_digest_9 (by decide) rfl (by omega) (by omega) (fun hc9 => by exfalso; omega) (fun hc9 => ?_)
      refine G.ldc2 X ko_L_11 15 dL_digest_12 rfl ?_
      refine G.lload_n X 16 dL_digest_15 rfl rfl ?_
      refine G.lmul X 17 dL_digest_16 rfl ?_
      refine G.aload_n X 18 dL_digest_17 rfl rfl ?_
      refine G.iload_n X 19 dL_digest_18 rfl rfl ?_
      refine GS.count X hO ml_L_13 22 dL_digest_19 rfl (cntF_15 (by omega)) (by omega) (by decide) ⟨Nat.zero_le _, Nat.zero_le _⟩ (Nat.le_of_ble_eq_true rfl) (fun M hO => ?_)
      refine G.i2l X 23 dL_digest_22 rfl ?_
      refine G.ladd X 24 dL_digest_23 rfl ?_
      refine G.lstore_n (ls' := [_, _, _, _, _]) X 25 dL_digest_24 rfl (by decide) rfl rfl ?_
      refine G.iinc (ls' := [_, _, _, _, _]) X 28 dL_digest_25 rfl rfl (by decide) rfl ?_
      refine G.goto X 6 dL_digest_28 (by decide) ?_
      exact ih (i + 1) _ M (by omega) (by rw [hx]; rfl) hO
  refine G.ldc2 X ko_L_9 3 dL_digest_0 rfl ?_
  refine G.lstore_n (ls' := [_, _, _, _, _]) X 4 dL_digest_3 rfl (by decide) rfl rfl ?_
  refine G.iconst X 5 dL_digest_4 rfl ?_
  refine G.istore_n (ls' := [_, _, _, _, _]) X 6 dL_digest_5 rfl (by decide) rfl ?_
  exact L6 15 0 _ M (by omega) rfl hO
set_option maxHeartbeats 2000000 in
set_option maxRecDepth 100000 in
theorem c_L_needier (l : Launch) (D : xD) (Bs sz : Nat) (kd : xKd) (rf : xRf) (M : xM) (a : Nat) (r : xR) (h : List xR) (sn : Option xR) (hO : Ob kd rf a M r h sn) (x y : Nat) (hx : x < nC r) (hy : y < nC r) (hN : Nd r x y) : CtI l D Bs yL_needier cL_needier 5 (some .boolean) 2 [.ref a, vi (x : Int), vi (y : Int)] sz kd rf M (fun q M' => q = 1 ∧ M' = M) := by
  refine Ctr.of (ys_L_needier.1.2.2.2.2) (List.forall_mem_cons.mpr ⟨rfl, List.forall_mem_cons.mpr ⟨rfl, List.forall_mem_cons.mpr ⟨rfl, fun _ h => absurd h List.not_mem_nil⟩⟩⟩) (Nat.le_of_ble_eq_true rfl) [some (.ref a), some (vi (x : Int)), some (vi (y : Int)), none, none] rfl ?_
  intro p e s m args below meth c X hin
  obtain ⟨hX, hI, hC⟩ := id hO
  have hV := hI.1.1.1
  have hJ := hI.1.2
  obtain ⟨n6, n6b⟩ := hV.n6
  obtain ⟨n7, n7b⟩ := hV.n7
  have vx := hV.2.2 x hx
  have vy := hV.2.2 y hy
  unfold Vsite at vx vy
  unfold Nd at hN
  refine G.aload_n X 1 dL_needier_0 rfl rfl ?_
  refine G.iload_n X 2 dL_needier_1 rfl rfl ?_
  refine G.iconst X 3 dL_needier_2 rfl ?_
  refine GS.site X hO ml_L_23 6 dL_needier_3 rfl (sit_0 (i := x) (by omega)) (by omega) (by decide) (by decide) ⟨Nat.zero_le _, Nat.zero_le _⟩ (Nat.le_of_ble_eq_true rfl) ?_
  refine G.aload_n X 7 dL_needier_6 rfl rfl ?_
  refine G.iload_n X 8 dL_needier_7 rfl rfl ?_
  refine G.iconst X 9 dL_needier_8 rfl ?_
  refine GS.site X hO ml_L_23 12 dL_needier_9 rfl (sit_0 (i := y) (by omega)) (by omega) (by decide) (by decide) ⟨Nat.zero_le _, Nat.zero_le _⟩ (Nat.le_of_ble_eq_true rfl) ?_
  refine G.isub X 13 dL_needier_12 rfl ?_
  refine G.istore_n (ls' := [_, _, _, _, _]) X 14 dL_needier_13 rfl (by decide) rfl ?_
  refine G.aload_n X 15 dL_needier_14 rfl rfl ?_
  refine G.iload_n X 16 dL_needier_15 rfl rfl ?_
  refine G.iconst X 17 dL_needier_16 rfl ?_
  refine GS.site X hO ml_L_23 20 dL_needier_17 rfl (sit_1 (i := x) (by omega)) (by omega) (by decide) (by decide) ⟨Nat.zero_le _, Nat.zero_le _⟩ (Nat.le_of_ble_eq_true rfl) ?_
  refine G.aload_n X 21 dL_needier_20 rfl rfl ?_
  refine G.iload_n X 22 dL_needier_21 rfl rfl ?_
  refine G.iconst X 23 dL_needier_22 rfl ?_
  refine GS.site X hO ml_L_23 26 dL_needier_23 rfl (sit_1 (i := y) (by omega)) (by omega) (by decide) (by decide) ⟨Nat.zero_le _, Nat.zero_le _⟩ (Nat.le_of_ble_eq_true rfl) ?_
  refine G.isub X 27 dL_needier_26 rfl ?_
  refine G.istore (ls' := [_, _, _, _, _]) X 29 dL_needier_27 rfl (by decide) rfl ?_
  refine G.iload_n X 30 dL_needier_29 rfl rfl ?_
  refine G.if_gt X 52 33 dL_needier_30 (by decide) rfl (by omega) (fun hc30 => ?_) (fun hc30 => ?_)
  · refine G.iconst X 53 dL_needier_52 rfl ?_
    refine G.goto X 57 dL_needier_53 (by decide) ?_
    refine G.zret X dL_needier_57 ⟨Nat.le_refl _, Nat.le_refl _⟩ (Or.inr rfl) ⟨rfl, rfl, rfl, _, rfl, ?_⟩
    exact ⟨rfl, rfl⟩
  · refine G.iload_n X 34 dL_needier_33 rfl rfl ?_
    refine G.if_ne X 56 37 dL_needier_34 (by decide) rfl (by omega) (fun hc34 => by exfalso; omega) (fun hc34 => ?_)
    refine G.iload X 39 dL_needier_37 rfl rfl ?_
    refine G.if_gt X 52 42 dL_needier_39 (by decide) rfl (by omega) (fun hc39 => ?_) (fun hc39 => ?_)
    · refine G.iconst X 53 dL_needier_52 rfl ?_
      refine G.goto X 57 dL_needier_53 (by decide) ?_
      refine G.zret X dL_needier_57 ⟨Nat.le_refl _, Nat.le_refl _⟩ (Or.inr rfl) ⟨rfl, rfl, rfl, _, rfl, ?_⟩
      exact ⟨rfl, rfl⟩
    · refine G.iload X 44 dL_needier_42 rfl rfl ?_
      refine G.if_ne X 56 47 dL_needier_44 (by decide) rfl (by omega) (fun hc44 => by exfalso; omega) (fun hc44 => ?_)
      refine G.iload_n X 48 dL_needier_47 rfl rfl ?_
      refine G.iload_n X 49 dL_needier_48 rfl rfl ?_
      refine G.icmp_ge X 56 52 dL_needier_49 (by decide) rfl (by omega) (by omega) (fun hc49 => by exfalso; omega) (fun hc49 => ?_)
      refine G.iconst X 53 dL_needier_52 rfl ?_
      refine G.goto X 57 dL_needier_53 (by decide) ?_
      refine G.zret X dL_needier_57 ⟨Nat.le_refl _, Nat.le_refl _⟩ (Or.inr rfl) ⟨rfl, rfl, rfl, _, rfl, ?_⟩
      exact ⟨rfl, rfl⟩
set_option maxHeartbeats 2000000 in
set_option maxRecDepth 100000 in
theorem c_L_could (l : Launch) (D : xD) (Bs sz : Nat) (kd : xKd) (rf : xRf) (M : xM) (a : Nat) (r : xR) (h : List xR) (sn : Option xR) (hO : Ob kd rf a M r h sn) (x : Nat) (hx : x < nC r) (hno : ∀ i, i < nS r → fS r i 5 = 0 → fS r i 0 < fC r x 1) : CtI l D Bs yL_could cL_could 3 (some .boolean) 7 [.ref a, vi (x : Int)] sz kd rf M (fun q M' => q = 0 ∧ Ob kd rf a M' r h sn) := by
  refine Ctr.of (ys_L_could.1.2.2.2.2) (List.forall_mem_cons.mpr ⟨rfl, List.forall_mem_cons.mpr ⟨rfl, fun _ h => absurd h List.not_mem_nil⟩⟩) (Nat.le_of_ble_eq_true rfl) [some (.ref a), some (vi (x : Int)), none] rfl ?_
  intro p e s m args below meth c X hin
  obtain ⟨hX, hI, hC⟩ := id hO
  have hV := hI.1.1.1
  have hJ := hI.1.2
  obtain ⟨n6, n6b⟩ := hV.n6
  obtain ⟨n7, n7b⟩ := hV.n7
  have vx := hV.2.2 x hx
  unfold Vsite at vx
  have L2 : ∀ (k : Nat) (i : Nat) (M : xM), i + k = nS r → Ob kd rf a M r h sn → G p l e (rmd 7) s m args below meth c D Bs 3 0 0 (MQ below (xQ D Bs (pI sz kd rf (fun q M' => q = 0 ∧ Ob kd rf a M' r h sn))) args s 0 0 (fun q => Bs ≤ q)) sz kd rf (M) 2 [some (.ref a), some (vi (x : Int)), some (vi (i : Int))] [] := by
    intro k
    induction k with
    | zero =>
      intro i M hik hO
      refine G.iload_n X 3 dL_could_2 rfl rfl ?_
      refine G.aload_n X 4 dL_could_3 rfl rfl ?_
      refine G.bipush X 6 dL_could_4 rfl (by decide) ?_
      refine GS.count X hO ml_L_13 9 dL_could_6 rfl (cnt_7) (by decide) (by decide) ⟨Nat.zero_le _, Nat.zero_le _⟩ (Nat.le_of_ble_eq_true rfl) (fun M hO => ?_)
      refine G.icmp_ge X 46 12 dL_could_9 (by decide) rfl (by omega) (by omega) (fun hc9 => ?_) (fun hc9 => by exfalso; omega)
      refine G.iconst X 47 dL_could_46 rfl ?_
      refine G.zret X dL_could_47 ⟨Nat.le_refl _, Nat.le_refl _⟩ (Or.inl rfl) ⟨rfl, rfl, rfl, _, rfl, ?_⟩
      exact ⟨rfl, hO⟩
    | succ k ih =>
      intro i M hik hO
      have hi : i < nS r := by omega
      have vi0 := hV.2.1 i hi
      unfold Vset at vi0
      refine G.iload_n X 3 dL_could_2 rfl rfl ?_
      refine G.aload_n X 4 dL_could_3 rfl rfl ?_
      refine G.bipush X 6 dL_could_4 rfl (by decide) ?_
      refine GS.count X hO ml_L_13 9 dL_could_6 rfl (cnt_7) (by decide) (by decide) ⟨Nat.zero_le _, Nat.zero_le _⟩ (Nat.le_of_ble_eq_true rfl) (fun M hO => ?_)
      refine G.icmp_ge X 46 12 dL_could_9 (by decide) rfl (by omega) (by omega) (fun hc9 => by exfalso; omega) (fun hc9 => ?_)
      rcases hV.i5 hi with h5 | ⟨j, h5, hj⟩
      · have hlow := hno i hi h5
        refine G.aload_n X 13 dL_could_12 rfl rfl ?_
        refine G.iload_n X 14 dL_could_13 rfl rfl ?_
        refine G.iconst X 15 dL_could_14 rfl ?_
        refine GS.set X hO ml_L_19 18 dL_could_15 rfl (set_5z (i := i) (by omega) (by omega)) (by omega) (by decide) (by decide) ⟨Nat.zero_le _, Nat.zero_le _⟩ (Nat.le_of_ble_eq_true rfl) ?_
        refine G.bipush X 20 dL_could_18 rfl (by decide) ?_
        refine G.icmp_ne X 40 23 dL_could_20 (by decide) rfl (by omega) (by omega) (fun hc20 => by exact absurd hc20 (by decide)) (fun hc20 => ?_)
        refine G.aload_n X 24 dL_could_23 rfl rfl ?_
        refine G.iload_n X 25 dL_could_24 rfl rfl ?_
        refine G.iconst X 26 dL_could_25 rfl ?_
        refine GS.set X hO ml_L_19 29 dL_could_26 rfl (set_0 (i := i) (by omega)) (by omega) (by decide) (by decide) ⟨Nat.zero_le _, Nat.zero_le _⟩ (Nat.le_of_ble_eq_true rfl) ?_
        refine G.aload_n X 30 dL_could_29 rfl rfl ?_
        refine G.iload_n X 31 dL_could_30 rfl rfl ?_
        refine G.iconst X 32 dL_could_31 rfl ?_
        refine GS.site X hO ml_L_23 35 dL_could_32 rfl (sit_1 (i := x) (by omega)) (by omega) (by decide) (by decide) ⟨Nat.zero_le _, Nat.zero_le _⟩ (Nat.le_of_ble_eq_true rfl) ?_
        refine G.icmp_lt X 40 38 dL_could_35 (by decide) rfl (by omega) (by omega) (fun hc35 => ?_) (fun hc35 => by exfalso; omega)
        refine G.iinc (ls' := [_, _, _]) X 43 dL_could_40 rfl rfl (by decide) rfl ?_
        refine G.goto X 2 dL_could_43 (by decide) ?_
        exact ih (i + 1) M (by omega) hO
      · refine G.aload_n X 13 dL_could_12 rfl rfl ?_
        refine G.iload_n X 14 dL_could_13 rfl rfl ?_
        refine G.iconst X 15 dL_could_14 rfl ?_
        refine GS.set X hO ml_L_19 18 dL_could_15 rfl (set_5p (i := i) (j := j) (by omega) (by omega)) (by omega) (by decide) (by decide) ⟨Nat.zero_le _, Nat.zero_le _⟩ (Nat.le_of_ble_eq_true rfl) ?_
        refine G.bipush X 20 dL_could_18 rfl (by decide) ?_
        refine G.icmp_ne X 40 23 dL_could_20 (by decide) rfl (by omega) (by omega) (fun hc20 => ?_) (fun hc20 => by exfalso; omega)
        refine G.iinc (ls' := [_, _, _]) X 43 dL_could_40 rfl rfl (by decide) rfl ?_
        refine G.goto X 2 dL_could_43 (by decide) ?_
        exact ih (i + 1) M (by omega) hO
  refine G.iconst X 1 dL_could_0 rfl ?_
  refine G.istore_n (ls' := [_, _, _]) X 2 dL_could_1 rfl (by decide) rfl ?_
  exact L2 (nS r) 0 M (by omega) hO
set_option maxHeartbeats 2000000 in
set_option maxRecDepth 100000 in
theorem c_L_sets (l : Launch) (D : xD) (Bs sz : Nat) (kd : xKd) (rf : xRf) (M : xM) (a : Nat) (r : xR) (h : List xR) (sn : Option xR) (hO : Ob kd rf a M r h sn) : CtI l D Bs yL_sets cL_sets 6 (some .boolean) 7 [.ref a] sz kd rf M (fun q M' => q = 1 ∧ Ob kd rf a M' r h sn) := by
  refine Ctr.of (ys_L_sets.1.2.2.2.2) (List.forall_mem_cons.mpr ⟨rfl, fun _ h => absurd h List.not_mem_nil⟩) (Nat.le_of_ble_eq_true rfl) [some (.ref a), none, none, none, none, none] rfl ?_
  intro p e s m args below meth c X hin
  obtain ⟨hX, hI, hC⟩ := id hO
  have hV := hI.1.1.1
  have hJ := hI.1.2
  obtain ⟨n6, n6b⟩ := hV.n6
  obtain ⟨n7, n7b⟩ := hV.n7
  have L6 : ∀ (k : Nat) (i : Nat) (t y : Int) (M : xM), i + k = nS r → t = sumN (fun q => fS r q 4) i → y = yardZ r i → Ob kd rf a M r h sn → G p l e (rmd 7) s m args below meth c D Bs 6 0 0 (MQ below (xQ D Bs (pI sz kd rf (fun q M' => q = 1 ∧ Ob kd rf a M' r h sn))) args s 0 0 (fun q => Bs ≤ q)) sz kd rf (M) 6 [some (.ref a), some (vi t), some (vi y), some (vi (i : Int)), none, none] [] := by
    intro k
    induction k with
    | zero =>
      intro i t y M hik ht hy hO
      obtain rfl : i = nS r := by omega
      refine G.iload_n X 7 dL_sets_6 rfl rfl ?_
      refine G.aload_n X 8 dL_sets_7 rfl rfl ?_
      refine G.bipush X 10 dL_sets_8 rfl (by decide) ?_
      refine GS.count X hO ml_L_13 13 dL_sets_10 rfl (cnt_7) (by decide) (by decide) ⟨Nat.zero_le _, Nat.zero_le _⟩ (Nat.le_of_ble_eq_true rfl) (fun M hO => ?_)
      refine G.icmp_ge X 153 16 dL_sets_13 (by decide) rfl (by omega) (by omega) (fun hc13 => ?_) (fun hc13 => by exfalso; omega)
      refine G.aload_n X 154 dL_sets_153 rfl rfl ?_
      refine G.iconst X 155 dL_sets_154 rfl ?_
      refine GS.count X hO ml_L_13 158 dL_sets_155 rfl (cnt_4) (by decide) (by decide) ⟨Nat.zero_le _, Nat.zero_le _⟩ (Nat.le_of_ble_eq_true rfl) (fun M hO => ?_)
      refine G.iload_n X 159 dL_sets_158 rfl rfl ?_
      refine G.neF X 162 dL_sets_159 213 (by decide) rfl (ht.symm) ?_
      refine G.aload_n X 163 dL_sets_162 rfl rfl ?_
      refine G.bipush X 165 dL_sets_163 rfl (by decide) ?_
      refine GS.count X hO ml_L_13 168 dL_sets_165 rfl (cnt_8) (by decide) (by decide) ⟨Nat.zero_le _, Nat.zero_le _⟩ (Nat.le_of_ble_eq_true rfl) (fun M hO => ?_)
      refine G.iload_n X 169 dL_sets_168 rfl rfl ?_
      refine G.neF X 172 dL_sets_169 213 (by decide) rfl (hy.symm) ?_
      refine G.aload_n X 173 dL_sets_172 rfl rfl ?_
      refine G.bipush X 175 dL_sets_173 rfl (by decide) ?_
      refine GS.count X hO ml_L_13 178 dL_sets_175 rfl (cnt_6) (by decide) (by decide) ⟨Nat.zero_le _, Nat.zero_le _⟩ (Nat.le_of_ble_eq_true rfl) (fun M hO => ?_)
      refine G.aload_n X 179 dL_sets_178 rfl rfl ?_
      refine G.iconst X 180 dL_sets_179 rfl ?_
      refine GS.count X hO ml_L_13 183 dL_sets_180 rfl (cnt_3) (by decide) (by decide) ⟨Nat.zero_le _, Nat.zero_le _⟩ (Nat.le_of_ble_eq_true rfl) (fun M hO => ?_)
      refine G.iload_n X 184 dL_sets_183 rfl rfl ?_
      refine G.iadd X 185 dL_sets_184 rfl ?_
      refine G.aload_n X 186 dL_sets_185 rfl rfl ?_
      refine G.iconst X 187 dL_sets_186 rfl ?_
      refine GS.count X hO ml_L_13 190 dL_sets_187 rfl (cnt_5) (by decide) (by decide) ⟨Nat.zero_le _, Nat.zero_le _⟩ (Nat.le_of_ble_eq_true rfl) (fun M hO => ?_)
      refine G.iadd X 191 dL_sets_190 rfl ?_
      refine G.neF X 194 dL_sets_191 213 (by decide) rfl (by rw [ht]; exact hJ.2.2.2.2) ?_
      refine G.aload_n X 195 dL_sets_194 rfl rfl ?_
      refine G.aload_n X 196 dL_sets_195 rfl rfl ?_
      refine G.bipush X 198 dL_sets_196 rfl (by decide) ?_
      refine GS.count X hO ml_L_13 201 dL_sets_198 rfl (cnt_7) (by decide) (by decide) ⟨Nat.zero_le _, Nat.zero_le _⟩ (Nat.le_of_ble_eq_true rfl) (fun M hO => ?_)
      refine G.iconst X 202 dL_sets_201 rfl ?_
      refine GS.set X hO ml_L_19 205 dL_sets_202 rfl (set_no (by omega)) (by omega) (by decide) (by decide) ⟨Nat.zero_le _, Nat.zero_le _⟩ (Nat.le_of_ble_eq_true rfl) ?_
      refine G.iconst X 206 dL_sets_205 rfl ?_
      refine G.icmp_ne X 213 209 dL_sets_206 (by decide) rfl (by omega) (by omega) (fun hc206 => by exact absurd hc206 (by decide)) (fun hc206 => ?_)
      refine G.iconst X 210 dL_sets_209 rfl ?_
      refine G.goto X 214 dL_sets_210 (by decide) ?_
      refine G.zret X dL_sets_214 ⟨Nat.le_refl _, Nat.le_refl _⟩ (Or.inr rfl) ⟨rfl, rfl, rfl, _, rfl, ?_⟩
      exact ⟨rfl, hO⟩
    | succ k ih =>
      intro i t y M hik ht hy hO
      have hi : i < nS r := by omega
      have v := hV.2.1 i hi
      unfold Vset at v
      obtain ⟨v0, v1, v2, v3, v4, v5, v6, v7⟩ := v
      refine G.iload_n X 7 dL_sets_6 rfl rfl ?_
      refine G.aload_n X 8 dL_sets_7 rfl rfl ?_
      refine G.bipush X 10 dL_sets_8 rfl (by decide) ?_
      refine GS.count X hO ml_L_13 13 dL_sets_10 rfl (cnt_7) (by decide) (by decide) ⟨Nat.zero_le _, Nat.zero_le _⟩ (Nat.le_of_ble_eq_true rfl) (fun M hO => ?_)
      refine G.icmp_ge X 153 16 dL_sets_13 (by decide) rfl (by omega) (by omega) (fun hc13 => by exfalso; omega) (fun hc13 => ?_)
      have hcase : (fS r i 5 = 0) ∨ (∃ j : Nat, fS r i 5 = (j : Int) + 1 ∧ j < nC r ∧ fS r i 6 = 0) ∨ (∃ j : Nat, fS r i 5 = (j : Int) + 1 ∧ j < nC r ∧ fS r i 6 = 1 ∧ fS r i 2 ≤ fS r i 4) := by
        rcases hV.i5 hi with h5 | ⟨j, h5, hj⟩
        · exact Or.inl h5
        · rcases v6 with h6 | h6
          · exact Or.inr (Or.inl ⟨j, h5, hj, h6⟩)
          · exact Or.inr (Or.inr ⟨j, h5, hj, h6⟩)
      rcases hcase with h5 | ⟨j, h5, hj, h6⟩ | ⟨j, h5, hj, h6, h6b⟩
      · obtain ⟨z6, z7⟩ := hJ.1 i hi h5
        refine G.aload_n X 17 dL_sets_16 rfl rfl ?_
        refine G.iload_n X 18 dL_sets_17 rfl rfl ?_
        refine G.iconst X 19 dL_sets_18 rfl ?_
        refine GS.set X hO ml_L_19 22 dL_sets_19 rfl (set_5z (i := i) (by omega) (by omega)) (by omega) (by decide) (by decide) ⟨Nat.zero_le _, Nat.zero_le _⟩ (Nat.le_of_ble_eq_true rfl) ?_
        refine G.istore (ls' := [_, _, _, _, _, _]) X 24 dL_sets_22 rfl (by decide) rfl ?_
        refine G.aload_n X 25 dL_sets_24 rfl rfl ?_
        refine G.iload_n X 26 dL_sets_25 rfl rfl ?_
        refine G.iconst X 27 dL_sets_26 rfl ?_
        refine GS.set X hO ml_L_19 30 dL_sets_27 rfl (set_4 (i := i) (by omega)) (by omega) (by decide) (by decide) ⟨Nat.zero_le _, Nat.zero_le _⟩ (Nat.le_of_ble_eq_true rfl) ?_
        refine G.istore (ls' := [_, _, _, _, _, _]) X 32 dL_sets_30 rfl (by decide) rfl ?_
        refine G.iload_n X 33 dL_sets_32 rfl rfl ?_
        refine G.iload X 35 dL_sets_33 rfl rfl ?_
        refine G.iadd X 36 dL_sets_35 rfl ?_
        refine G.istore_n (ls' := [_, _, _, _, _, _]) X 37 dL_sets_36 rfl (by decide) rfl ?_
        refine G.iload_n X 38 dL_sets_37 rfl rfl ?_
        refine G.iload X 40 dL_sets_38 rfl rfl ?_
        refine G.bipush X 42 dL_sets_40 rfl (by decide) ?_
        refine G.icmp_ne X 49 45 dL_sets_42 (by decide) rfl (by omega) (by omega) (fun hc42 => by exact absurd hc42 (by decide)) (fun hc42 => ?_)
        refine G.iconst X 46 dL_sets_45 rfl ?_
        refine G.goto X 50 dL_sets_46 (by decide) ?_
        refine G.iadd X 51 dL_sets_50 rfl ?_
        refine G.istore_n (ls' := [_, _, _, _, _, _]) X 52 dL_sets_51 rfl (by decide) rfl ?_
        refine G.iload X 54 dL_sets_52 rfl rfl ?_
        refine G.if_lt X 145 57 dL_sets_54 (by decide) rfl (by omega) (fun hc54 => by exfalso; omega) (fun hc54 => ?_)
        refine G.iload X 59 dL_sets_57 rfl rfl ?_
        refine G.aload_n X 60 dL_sets_59 rfl rfl ?_
        refine G.iload_n X 61 dL_sets_60 rfl rfl ?_
        refine G.iconst X 62 dL_sets_61 rfl ?_
        refine GS.set X hO ml_L_19 65 dL_sets_62 rfl (set_1 (i := i) (by omega)) (by omega) (by decide) (by decide) ⟨Nat.zero_le _, Nat.zero_le _⟩ (Nat.le_of_ble_eq_true rfl) ?_
        refine G.icmp_gt X 145 68 dL_sets_65 (by decide) rfl (by omega) (by omega) (fun hc65 => by exfalso; omega) (fun hc65 => ?_)
        refine G.aload_n X 69 dL_sets_68 rfl rfl ?_
        refine G.iload_n X 70 dL_sets_69 rfl rfl ?_
        refine G.bipush X 72 dL_sets_70 rfl (by decide) ?_
        refine GS.set X hO ml_L_19 75 dL_sets_72 rfl (set_6 (i := i) (by omega)) (by omega) (by decide) (by decide) ⟨Nat.zero_le _, Nat.zero_le _⟩ (Nat.le_of_ble_eq_true rfl) ?_
        refine G.iconst X 76 dL_sets_75 rfl ?_
        refine G.icmp_ne X 95 79 dL_sets_76 (by decide) rfl (by omega) (by omega) (fun hc76 => ?_) (fun hc76 => by exfalso; omega)
        refine G.iload X 97 dL_sets_95 rfl rfl ?_
        refine G.if_lt X 111 100 dL_sets_97 (by decide) rfl (by omega) (fun hc97 => ?_) (fun hc97 => by exact absurd hc97 (by decide))
        refine G.iload X 113 dL_sets_111 rfl rfl ?_
        refine G.if_ge X 126 116 dL_sets_113 (by decide) rfl (by omega) (fun hc113 => by exact absurd hc113 (by decide)) (fun hc113 => ?_)
        refine G.aload_n X 117 dL_sets_116 rfl rfl ?_
        refine G.iload_n X 118 dL_sets_117 rfl rfl ?_
        refine G.bipush X 120 dL_sets_118 rfl (by decide) ?_
        refine GS.set X hO ml_L_19 123 dL_sets_120 rfl (set_7 (i := i) (by omega)) (by omega) (by decide) (by decide) ⟨Nat.zero_le _, Nat.zero_le _⟩ (Nat.le_of_ble_eq_true rfl) ?_
        refine G.if_ne X 145 126 dL_sets_123 (by decide) rfl (by omega) (fun hc123 => by exfalso; omega) (fun hc123 => ?_)
        refine G.aload_n X 127 dL_sets_126 rfl rfl ?_
        refine G.iload_n X 128 dL_sets_127 rfl rfl ?_
        refine G.bipush X 130 dL_sets_128 rfl (by decide) ?_
        refine GS.set X hO ml_L_19 133 dL_sets_130 rfl (set_9 (i := i) (by omega)) (by omega) (by decide) (by decide) ⟨Nat.zero_le _, Nat.zero_le _⟩ (Nat.le_of_ble_eq_true rfl) ?_
        refine G.iload X 135 dL_sets_133 rfl rfl ?_
        refine G.aload_n X 136 dL_sets_135 rfl rfl ?_
        refine G.iload_n X 137 dL_sets_136 rfl rfl ?_
        refine G.iconst X 138 dL_sets_137 rfl ?_
        refine GS.set X hO ml_L_19 141 dL_sets_138 rfl (set_2 (i := i) (by omega)) (by omega) (by decide) (by decide) ⟨Nat.zero_le _, Nat.zero_le _⟩ (Nat.le_of_ble_eq_true rfl) ?_
        refine G.idivI X 142 dL_sets_141 rfl (by omega) (by omega) ?_
        refine G.eqT X 147 dL_sets_142 (by decide) (rfl) ?_
        refine G.iinc (ls' := [_, _, _, _, _, _]) X 150 dL_sets_147 rfl rfl (by decide) rfl ?_
        refine G.goto X 6 dL_sets_150 (by decide) ?_
        refine G.drop 4 ?_
        refine G.drop 5 ?_
        exact ih (i + 1) _ _ M (by omega) (by simp only [sumN_s]; omega) (by rw [yardZ_s]; rw [if_pos h5]; omega) hO
      · have h4 := hJ.2.1 i j hi h5
        refine G.aload_n X 17 dL_sets_16 rfl rfl ?_
        refine G.iload_n X 18 dL_sets_17 rfl rfl ?_
        refine G.iconst X 19 dL_sets_18 rfl ?_
        refine GS.set X hO ml_L_19 22 dL_sets_19 rfl (set_5p (i := i) (j := j) (by omega) (by omega)) (by omega) (by decide) (by decide) ⟨Nat.zero_le _, Nat.zero_le _⟩ (Nat.le_of_ble_eq_true rfl) ?_
        refine G.istore (ls' := [_, _, _, _, _, _]) X 24 dL_sets_22 rfl (by decide) rfl ?_
        refine G.aload_n X 25 dL_sets_24 rfl rfl ?_
        refine G.iload_n X 26 dL_sets_25 rfl rfl ?_
        refine G.iconst X 27 dL_sets_26 rfl ?_
        refine GS.set X hO ml_L_19 30 dL_sets_27 rfl (set_4 (i := i) (by omega)) (by omega) (by decide) (by decide) ⟨Nat.zero_le _, Nat.zero_le _⟩ (Nat.le_of_ble_eq_true rfl) ?_
        refine G.istore (ls' := [_, _, _, _, _, _]) X 32 dL_sets_30 rfl (by decide) rfl ?_
        refine G.iload_n X 33 dL_sets_32 rfl rfl ?_
        refine G.iload X 35 dL_sets_33 rfl rfl ?_
        refine G.iadd X 36 dL_sets_35 rfl ?_
        refine G.istore_n (ls' := [_, _, _, _, _, _]) X 37 dL_sets_36 rfl (by decide) rfl ?_
        refine G.iload_n X 38 dL_sets_37 rfl rfl ?_
        refine G.iload X 40 dL_sets_38 rfl rfl ?_
        refine G.bipush X 42 dL_sets_40 rfl (by decide) ?_
        refine G.icmp_ne X 49 45 dL_sets_42 (by decide) rfl (by omega) (by omega) (fun hc42 => ?_) (fun hc42 => ?_)
        · refine G.iconst X 50 dL_sets_49 rfl ?_
          refine G.iadd X 51 dL_sets_50 rfl ?_
          refine G.istore_n (ls' := [_, _, _, _, _, _]) X 52 dL_sets_51 rfl (by decide) rfl ?_
          refine G.iload X 54 dL_sets_52 rfl rfl ?_
          refine G.if_lt X 145 57 dL_sets_54 (by decide) rfl (by omega) (fun hc54 => by exfalso; omega) (fun hc54 => ?_)
          refine G.iload X 59 dL_sets_57 rfl rfl ?_
          refine G.aload_n X 60 dL_sets_59 rfl rfl ?_
          refine G.iload_n X 61 dL_sets_60 rfl rfl ?_
          refine G.iconst X 62 dL_sets_61 rfl ?_
          refine GS.set X hO ml_L_19 65 dL_sets_62 rfl (set_1 (i := i) (by omega)) (by omega) (by decide) (by decide) ⟨Nat.zero_le _, Nat.zero_le _⟩ (Nat.le_of_ble_eq_true rfl) ?_
          refine G.icmp_gt X 145 68 dL_sets_65 (by decide) rfl (by omega) (by omega) (fun hc65 => by exfalso; omega) (fun hc65 => ?_)
          refine G.aload_n X 69 dL_sets_68 rfl rfl ?_
          refine G.iload_n X 70 dL_sets_69 rfl rfl ?_
          refine G.bipush X 72 dL_sets_70 rfl (by decide) ?_
          refine GS.set X hO ml_L_19 75 dL_sets_72 rfl (set_6 (i := i) (by omega)) (by omega) (by decide) (by decide) ⟨Nat.zero_le _, Nat.zero_le _⟩ (Nat.le_of_ble_eq_true rfl) ?_
          refine G.iconst X 76 dL_sets_75 rfl ?_
          refine G.icmp_ne X 95 79 dL_sets_76 (by decide) rfl (by omega) (by omega) (fun hc76 => ?_) (fun hc76 => by exfalso; omega)
          refine G.iload X 97 dL_sets_95 rfl rfl ?_
          refine G.if_lt X 111 100 dL_sets_97 (by decide) rfl (by omega) (fun hc97 => by omega) (fun hc97 => ?_)
          refine G.aload_n X 101 dL_sets_100 rfl rfl ?_
          refine G.iload X 103 dL_sets_101 rfl rfl ?_
          refine G.iconst X 104 dL_sets_103 rfl ?_
          refine GS.site X hO ml_L_23 107 dL_sets_104 rfl (sit_4p (i := j) (j := i) (by omega) (by omega)) (by omega) (by decide) (by decide) ⟨Nat.zero_le _, Nat.zero_le _⟩ (Nat.le_of_ble_eq_true rfl) ?_
          refine G.iload_n X 108 dL_sets_107 rfl rfl ?_
          refine G.neF X 111 dL_sets_108 145 (by decide) rfl (rfl) ?_
          refine G.iload X 113 dL_sets_111 rfl rfl ?_
          refine G.if_ge X 126 116 dL_sets_113 (by decide) rfl (by omega) (fun hc113 => ?_) (fun hc113 => by omega)
          refine G.aload_n X 127 dL_sets_126 rfl rfl ?_
          refine G.iload_n X 128 dL_sets_127 rfl rfl ?_
          refine G.bipush X 130 dL_sets_128 rfl (by decide) ?_
          refine GS.set X hO ml_L_19 133 dL_sets_130 rfl (set_9 (i := i) (by omega)) (by omega) (by decide) (by decide) ⟨Nat.zero_le _, Nat.zero_le _⟩ (Nat.le_of_ble_eq_true rfl) ?_
          refine G.iload X 135 dL_sets_133 rfl rfl ?_
          refine G.aload_n X 136 dL_sets_135 rfl rfl ?_
          refine G.iload_n X 137 dL_sets_136 rfl rfl ?_
          refine G.iconst X 138 dL_sets_137 rfl ?_
          refine GS.set X hO ml_L_19 141 dL_sets_138 rfl (set_2 (i := i) (by omega)) (by omega) (by decide) (by decide) ⟨Nat.zero_le _, Nat.zero_le _⟩ (Nat.le_of_ble_eq_true rfl) ?_
          refine G.idivI X 142 dL_sets_141 rfl (by omega) (by omega) ?_
          refine G.eqT X 147 dL_sets_142 (by decide) (rfl) ?_
          refine G.iinc (ls' := [_, _, _, _, _, _]) X 150 dL_sets_147 rfl rfl (by decide) rfl ?_
          refine G.goto X 6 dL_sets_150 (by decide) ?_
          refine G.drop 4 ?_
          refine G.drop 5 ?_
          exact ih (i + 1) _ _ M (by omega) (by simp only [sumN_s]; omega) (by rw [yardZ_s]; rw [if_neg (by omega)]; omega) hO
        · refine G.iconst X 46 dL_sets_45 rfl ?_
          refine G.goto X 50 dL_sets_46 (by decide) ?_
          refine G.iadd X 51 dL_sets_50 rfl ?_
          refine G.istore_n (ls' := [_, _, _, _, _, _]) X 52 dL_sets_51 rfl (by decide) rfl ?_
          refine G.iload X 54 dL_sets_52 rfl rfl ?_
          refine G.if_lt X 145 57 dL_sets_54 (by decide) rfl (by omega) (fun hc54 => by exfalso; omega) (fun hc54 => ?_)
          refine G.iload X 59 dL_sets_57 rfl rfl ?_
          refine G.aload_n X 60 dL_sets_59 rfl rfl ?_
          refine G.iload_n X 61 dL_sets_60 rfl rfl ?_
          refine G.iconst X 62 dL_sets_61 rfl ?_
          refine GS.set X hO ml_L_19 65 dL_sets_62 rfl (set_1 (i := i) (by omega)) (by omega) (by decide) (by decide) ⟨Nat.zero_le _, Nat.zero_le _⟩ (Nat.le_of_ble_eq_true rfl) ?_
          refine G.icmp_gt X 145 68 dL_sets_65 (by decide) rfl (by omega) (by omega) (fun hc65 => by exfalso; omega) (fun hc65 => ?_)
          refine G.aload_n X 69 dL_sets_68 rfl rfl ?_
          refine G.iload_n X 70 dL_sets_69 rfl rfl ?_
          refine G.bipush X 72 dL_sets_70 rfl (by decide) ?_
          refine GS.set X hO ml_L_19 75 dL_sets_72 rfl (set_6 (i := i) (by omega)) (by omega) (by decide) (by decide) ⟨Nat.zero_le _, Nat.zero_le _⟩ (Nat.le_of_ble_eq_true rfl) ?_
          refine G.iconst X 76 dL_sets_75 rfl ?_
          refine G.icmp_ne X 95 79 dL_sets_76 (by decide) rfl (by omega) (by omega) (fun hc76 => ?_) (fun hc76 => by exfalso; omega)
          refine G.iload X 97 dL_sets_95 rfl rfl ?_
          refine G.if_lt X 111 100 dL_sets_97 (by decide) rfl (by omega) (fun hc97 => by omega) (fun hc97 => ?_)
          refine G.aload_n X 101 dL_sets_100 rfl rfl ?_
          refine G.iload X 103 dL_sets_101 rfl rfl ?_
          refine G.iconst X 104 dL_sets_103 rfl ?_
          refine GS.site X hO ml_L_23 107 dL_sets_104 rfl (sit_4p (i := j) (j := i) (by omega) (by omega)) (by omega) (by decide) (by decide) ⟨Nat.zero_le _, Nat.zero_le _⟩ (Nat.le_of_ble_eq_true rfl) ?_
          refine G.iload_n X 108 dL_sets_107 rfl rfl ?_
          refine G.neF X 111 dL_sets_108 145 (by decide) rfl (rfl) ?_
          refine G.iload X 113 dL_sets_111 rfl rfl ?_
          refine G.if_ge X 126 116 dL_sets_113 (by decide) rfl (by omega) (fun hc113 => ?_) (fun hc113 => by omega)
          refine G.aload_n X 127 dL_sets_126 rfl rfl ?_
          refine G.iload_n X 128 dL_sets_127 rfl rfl ?_
          refine G.bipush X 130 dL_sets_128 rfl (by decide) ?_
          refine GS.set X hO ml_L_19 133 dL_sets_130 rfl (set_9 (i := i) (by omega)) (by omega) (by decide) (by decide) ⟨Nat.zero_le _, Nat.zero_le _⟩ (Nat.le_of_ble_eq_true rfl) ?_
          refine G.iload X 135 dL_sets_133 rfl rfl ?_
          refine G.aload_n X 136 dL_sets_135 rfl rfl ?_
          refine G.iload_n X 137 dL_sets_136 rfl rfl ?_
          refine G.iconst X 138 dL_sets_137 rfl ?_
          refine GS.set X hO ml_L_19 141 dL_sets_138 rfl (set_2 (i := i) (by omega)) (by omega) (by decide) (by decide) ⟨Nat.zero_le _, Nat.zero_le _⟩ (Nat.le_of_ble_eq_true rfl) ?_
          refine G.idivI X 142 dL_sets_141 rfl (by omega) (by omega) ?_
          refine G.eqT X 147 dL_sets_142 (by decide) (rfl) ?_
          refine G.iinc (ls' := [_, _, _, _, _, _]) X 150 dL_sets_147 rfl rfl (by decide) rfl ?_
          refine G.goto X 6 dL_sets_150 (by decide) ?_
          refine G.drop 4 ?_
          refine G.drop 5 ?_
          exact ih (i + 1) _ _ M (by omega) (by simp only [sumN_s]; omega) (by rw [yardZ_s]; rw [if_neg (by omega)]; omega) hO
      · have h4 := hJ.2.1 i j hi h5
        refine G.aload_n X 17 dL_sets_16 rfl rfl ?_
        refine G.iload_n X 18 dL_sets_17 rfl rfl ?_
        refine G.iconst X 19 dL_sets_18 rfl ?_
        refine GS.set X hO ml_L_19 22 dL_sets_19 rfl (set_5p (i := i) (j := j) (by omega) (by omega)) (by omega) (by decide) (by decide) ⟨Nat.zero_le _, Nat.zero_le _⟩ (Nat.le_of_ble_eq_true rfl) ?_
        refine G.istore (ls' := [_, _, _, _, _, _]) X 24 dL_sets_22 rfl (by decide) rfl ?_
        refine G.aload_n X 25 dL_sets_24 rfl rfl ?_
        refine G.iload_n X 26 dL_sets_25 rfl rfl ?_
        refine G.iconst X 27 dL_sets_26 rfl ?_
        refine GS.set X hO ml_L_19 30 dL_sets_27 rfl (set_4 (i := i) (by omega)) (by omega) (by decide) (by decide) ⟨Nat.zero_le _, Nat.zero_le _⟩ (Nat.le_of_ble_eq_true rfl) ?_
        refine G.istore (ls' := [_, _, _, _, _, _]) X 32 dL_sets_30 rfl (by decide) rfl ?_
        refine G.iload_n X 33 dL_sets_32 rfl rfl ?_
        refine G.iload X 35 dL_sets_33 rfl rfl ?_
        refine G.iadd X 36 dL_sets_35 rfl ?_
        refine G.istore_n (ls' := [_, _, _, _, _, _]) X 37 dL_sets_36 rfl (by decide) rfl ?_
        refine G.iload_n X 38 dL_sets_37 rfl rfl ?_
        refine G.iload X 40 dL_sets_38 rfl rfl ?_
        refine G.bipush X 42 dL_sets_40 rfl (by decide) ?_
        refine G.icmp_ne X 49 45 dL_sets_42 (by decide) rfl (by omega) (by omega) (fun hc42 => ?_) (fun hc42 => ?_)
        · refine G.iconst X 50 dL_sets_49 rfl ?_
          refine G.iadd X 51 dL_sets_50 rfl ?_
          refine G.istore_n (ls' := [_, _, _, _, _, _]) X 52 dL_sets_51 rfl (by decide) rfl ?_
          refine G.iload X 54 dL_sets_52 rfl rfl ?_
          refine G.if_lt X 145 57 dL_sets_54 (by decide) rfl (by omega) (fun hc54 => by exfalso; omega) (fun hc54 => ?_)
          refine G.iload X 59 dL_sets_57 rfl rfl ?_
          refine G.aload_n X 60 dL_sets_59 rfl rfl ?_
          refine G.iload_n X 61 dL_sets_60 rfl rfl ?_
          refine G.iconst X 62 dL_sets_61 rfl ?_
          refine GS.set X hO ml_L_19 65 dL_sets_62 rfl (set_1 (i := i) (by omega)) (by omega) (by decide) (by decide) ⟨Nat.zero_le _, Nat.zero_le _⟩ (Nat.le_of_ble_eq_true rfl) ?_
          refine G.icmp_gt X 145 68 dL_sets_65 (by decide) rfl (by omega) (by omega) (fun hc65 => by exfalso; omega) (fun hc65 => ?_)
          refine G.aload_n X 69 dL_sets_68 rfl rfl ?_
          refine G.iload_n X 70 dL_sets_69 rfl rfl ?_
          refine G.bipush X 72 dL_sets_70 rfl (by decide) ?_
          refine GS.set X hO ml_L_19 75 dL_sets_72 rfl (set_6 (i := i) (by omega)) (by omega) (by decide) (by decide) ⟨Nat.zero_le _, Nat.zero_le _⟩ (Nat.le_of_ble_eq_true rfl) ?_
          refine G.iconst X 76 dL_sets_75 rfl ?_
          refine G.icmp_ne X 95 79 dL_sets_76 (by decide) rfl (by omega) (by omega) (fun hc76 => by exfalso; omega) (fun hc76 => ?_)
          refine G.iload X 81 dL_sets_79 rfl rfl ?_
          refine G.if_lt X 145 84 dL_sets_81 (by decide) rfl (by omega) (fun hc81 => by omega) (fun hc81 => ?_)
          refine G.iload X 86 dL_sets_84 rfl rfl ?_
          refine G.aload_n X 87 dL_sets_86 rfl rfl ?_
          refine G.iload_n X 88 dL_sets_87 rfl rfl ?_
          refine G.iconst X 89 dL_sets_88 rfl ?_
          refine GS.set X hO ml_L_19 92 dL_sets_89 rfl (set_2 (i := i) (by omega)) (by omega) (by decide) (by decide) ⟨Nat.zero_le _, Nat.zero_le _⟩ (Nat.le_of_ble_eq_true rfl) ?_
          refine G.icmp_lt X 145 95 dL_sets_92 (by decide) rfl (by omega) (by omega) (fun hc92 => by exfalso; omega) (fun hc92 => ?_)
          refine G.iload X 97 dL_sets_95 rfl rfl ?_
          refine G.if_lt X 111 100 dL_sets_97 (by decide) rfl (by omega) (fun hc97 => by omega) (fun hc97 => ?_)
          refine G.aload_n X 101 dL_sets_100 rfl rfl ?_
          refine G.iload X 103 dL_sets_101 rfl rfl ?_
          refine G.iconst X 104 dL_sets_103 rfl ?_
          refine GS.site X hO ml_L_23 107 dL_sets_104 rfl (sit_4p (i := j) (j := i) (by omega) (by omega)) (by omega) (by decide) (by decide) ⟨Nat.zero_le _, Nat.zero_le _⟩ (Nat.le_of_ble_eq_true rfl) ?_
          refine G.iload_n X 108 dL_sets_107 rfl rfl ?_
          refine G.neF X 111 dL_sets_108 145 (by decide) rfl (rfl) ?_
          refine G.iload X 113 dL_sets_111 rfl rfl ?_
          refine G.if_ge X 126 116 dL_sets_113 (by decide) rfl (by omega) (fun hc113 => ?_) (fun hc113 => by omega)
          refine G.aload_n X 127 dL_sets_126 rfl rfl ?_
          refine G.iload_n X 128 dL_sets_127 rfl rfl ?_
          refine G.bipush X 130 dL_sets_128 rfl (by decide) ?_
          refine GS.set X hO ml_L_19 133 dL_sets_130 rfl (set_9 (i := i) (by omega)) (by omega) (by decide) (by decide) ⟨Nat.zero_le _, Nat.zero_le _⟩ (Nat.le_of_ble_eq_true rfl) ?_
          refine G.iload X 135 dL_sets_133 rfl rfl ?_
          refine G.aload_n X 136 dL_sets_135 rfl rfl ?_
          refine G.iload_n X 137 dL_sets_136 rfl rfl ?_
          refine G.iconst X 138 dL_sets_137 rfl ?_
          refine GS.set X hO ml_L_19 141 dL_sets_138 rfl (set_2 (i := i) (by omega)) (by omega) (by decide) (by decide) ⟨Nat.zero_le _, Nat.zero_le _⟩ (Nat.le_of_ble_eq_true rfl) ?_
          refine G.idivI X 142 dL_sets_141 rfl (by omega) (by omega) ?_
          refine G.eqT X 147 dL_sets_142 (by decide) (rfl) ?_
          refine G.iinc (ls' := [_, _, _, _, _, _]) X 150 dL_sets_147 rfl rfl (by decide) rfl ?_
          refine G.goto X 6 dL_sets_150 (by decide) ?_
          refine G.drop 4 ?_
          refine G.drop 5 ?_
          exact ih (i + 1) _ _ M (by omega) (by simp only [sumN_s]; omega) (by rw [yardZ_s]; rw [if_neg (by omega)]; omega) hO
        · refine G.iconst X 46 dL_sets_45 rfl ?_
          refine G.goto X 50 dL_sets_46 (by decide) ?_
          refine G.iadd X 51 dL_sets_50 rfl ?_
          refine G.istore_n (ls' := [_, _, _, _, _, _]) X 52 dL_sets_51 rfl (by decide) rfl ?_
          refine G.iload X 54 dL_sets_52 rfl rfl ?_
          refine G.if_lt X 145 57 dL_sets_54 (by decide) rfl (by omega) (fun hc54 => by exfalso; omega) (fun hc54 => ?_)
          refine G.iload X 59 dL_sets_57 rfl rfl ?_
          refine G.aload_n X 60 dL_sets_59 rfl rfl ?_
          refine G.iload_n X 61 dL_sets_60 rfl rfl ?_
          refine G.iconst X 62 dL_sets_61 rfl ?_
          refine GS.set X hO ml_L_19 65 dL_sets_62 rfl (set_1 (i := i) (by omega)) (by omega) (by decide) (by decide) ⟨Nat.zero_le _, Nat.zero_le _⟩ (Nat.le_of_ble_eq_true rfl) ?_
          refine G.icmp_gt X 145 68 dL_sets_65 (by decide) rfl (by omega) (by omega) (fun hc65 => by exfalso; omega) (fun hc65 => ?_)
          refine G.aload_n X 69 dL_sets_68 rfl rfl ?_
          refine G.iload_n X 70 dL_sets_69 rfl rfl ?_
          refine G.bipush X 72 dL_sets_70 rfl (by decide) ?_
          refine GS.set X hO ml_L_19 75 dL_sets_72 rfl (set_6 (i := i) (by omega)) (by omega) (by decide) (by decide) ⟨Nat.zero_le _, Nat.zero_le _⟩ (Nat.le_of_ble_eq_true rfl) ?_
          refine G.iconst X 76 dL_sets_75 rfl ?_
          refine G.icmp_ne X 95 79 dL_sets_76 (by decide) rfl (by omega) (by omega) (fun hc76 => by exfalso; omega) (fun hc76 => ?_)
          refine G.iload X 81 dL_sets_79 rfl rfl ?_
          refine G.if_lt X 145 84 dL_sets_81 (by decide) rfl (by omega) (fun hc81 => by omega) (fun hc81 => ?_)
          refine G.iload X 86 dL_sets_84 rfl rfl ?_
          refine G.aload_n X 87 dL_sets_86 rfl rfl ?_
          refine G.iload_n X 88 dL_sets_87 rfl rfl ?_
          refine G.iconst X 89 dL_sets_88 rfl ?_
          refine GS.set X hO ml_L_19 92 dL_sets_89 rfl (set_2 (i := i) (by omega)) (by omega) (by decide) (by decide) ⟨Nat.zero_le _, Nat.zero_le _⟩ (Nat.le_of_ble_eq_true rfl) ?_
          refine G.icmp_lt X 145 95 dL_sets_92 (by decide) rfl (by omega) (by omega) (fun hc92 => by exfalso; omega) (fun hc92 => ?_)
          refine G.iload X 97 dL_sets_95 rfl rfl ?_
          refine G.if_lt X 111 100 dL_sets_97 (by decide) rfl (by omega) (fun hc97 => by omega) (fun hc97 => ?_)
          refine G.aload_n X 101 dL_sets_100 rfl rfl ?_
          refine G.iload X 103 dL_sets_101 rfl rfl ?_
          refine G.iconst X 104 dL_sets_103 rfl ?_
          refine GS.site X hO ml_L_23 107 dL_sets_104 rfl (sit_4p (i := j) (j := i) (by omega) (by omega)) (by omega) (by decide) (by decide) ⟨Nat.zero_le _, Nat.zero_le _⟩ (Nat.le_of_ble_eq_true rfl) ?_
          refine G.iload_n X 108 dL_sets_107 rfl rfl ?_
          refine G.neF X 111 dL_sets_108 145 (by decide) rfl (rfl) ?_
          refine G.iload X 113 dL_sets_111 rfl rfl ?_
          refine G.if_ge X 126 116 dL_sets_113 (by decide) rfl (by omega) (fun hc113 => ?_) (fun hc113 => by omega)
          refine G.aload_n X 127 dL_sets_126 rfl rfl ?_
          refine G.iload_n X 128 dL_sets_127 rfl rfl ?_
          refine G.bipush X 130 dL_sets_128 rfl (by decide) ?_
          refine GS.set X hO ml_L_19 133 dL_sets_130 rfl (set_9 (i := i) (by omega)) (by omega) (by decide) (by decide) ⟨Nat.zero_le _, Nat.zero_le _⟩ (Nat.le_of_ble_eq_true rfl) ?_
          refine G.iload X 135 dL_sets_133 rfl rfl ?_
          refine G.aload_n X 136 dL_sets_135 rfl rfl ?_
          refine G.iload_n X 137 dL_sets_136 rfl rfl ?_
          refine G.iconst X 138 dL_sets_137 rfl ?_
          refine GS.set X hO ml_L_19 141 dL_sets_138 rfl (set_2 (i := i) (by omega)) (by omega) (by decide) (by decide) ⟨Nat.zero_le _, Nat.zero_le _⟩ (Nat.le_of_ble_eq_true rfl) ?_
          refine G.idivI X 142 dL_sets_141 rfl (by omega) (by omega) ?_
          refine G.eqT X 147 dL_sets_142 (by decide) (rfl) ?_
          refine G.iinc (ls' := [_, _, _, _, _, _]) X 150 dL_sets_147 rfl rfl (by decide) rfl ?_
          refine G.goto X 6 dL_sets_150 (by decide) ?_
          refine G.drop 4 ?_
          refine G.drop 5 ?_
          exact ih (i + 1) _ _ M (by omega) (by simp only [sumN_s]; omega) (by rw [yardZ_s]; rw [if_neg (by omega)]; omega) hO
  refine G.iconst X 1 dL_sets_0 rfl ?_
  refine G.istore_n (ls' := [_, _, _, _, _, _]) X 2 dL_sets_1 rfl (by decide) rfl ?_
  refine G.iconst X 3 dL_sets_2 rfl ?_
  refine G.istore_n (ls' := [_, _, _, _, _, _]) X 4 dL_sets_3 rfl (by decide) rfl ?_
  refine G.iconst X 5 dL_sets_4 rfl ?_
  refine G.istore_n (ls' := [_, _, _, _, _, _]) X 6 dL_sets_5 rfl (by decide) rfl ?_
  exact L6 (nS r) 0 0 0 M (by omega) rfl rfl hO
