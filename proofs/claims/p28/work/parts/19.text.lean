theorem mu_mu {M : xM} {a k : Nat} {x y : Int} : mu (mu M a k x) a k y = mu M a k y := by
  unfold mu
  rw [ms_same, ms_ms, fu_fu]
theorem mu_self {M : xM} {a k : Nat} {x : Int} (h : M a k = x) : mu M a k x = M := by
  subst h
  unfold mu
  rw [fu_self, ms_self]
theorem TxO.mv {M : xM} {a k : Nat} {t : List Int} {x : Int} (h : TxO M a t) (hk : k ≠ 1) : TxO (mu M a k x) a t := h.off (mu_ne (Or.inr (Ne.symm hk))) (ms_ne (by omega))
/-! reading: signs, numbers, sites (positions in the text t) -/
abbrev isDg (t : List Int) (p : Nat) (lo : Int) : Prop := p < t.length ∧ lo ≤ t.getD p 0 ∧ t.getD p 0 ≤ 57
abbrev sg (t : List Int) (p : Nat) (c : Int) : Prop := p < t.length ∧ t.getD p 0 = c
def numL (t : List Int) : Nat → Int → Nat → Int × Nat
  | 0, v, p => (v, p)
  | k + 1, v, p => if isDg t p 48 then numL t k (10 * v + (t.getD p 0 - 48)) (p + 1) else (v, p)
theorem numL_s (t : List Int) (k : Nat) (v : Int) (p : Nat) : numL t (k + 1) v p = if isDg t p 48 then numL t k (10 * v + (t.getD p 0 - 48)) (p + 1) else (v, p) := rfl
def numF (t : List Int) (lo : Int) (dg p : Nat) : Int × Nat := if isDg t p lo then numL t (if t.getD p 0 - 48 = 0 then 0 else dg - 1) (t.getD p 0 - 48) (p + 1) else (-1, p)
theorem numL_rng (t : List Int) : ∀ (k : Nat) (v : Int) (p : Nat) (B : Int), 0 ≤ v ∧ v < B → 0 ≤ (numL t k v p).1 ∧ (numL t k v p).1 < B * 10 ^ k ∧ p ≤ (numL t k v p).2 ∧ (numL t k v p).2 ≤ p + k
  | 0, v, p, B, h => by
    show 0 ≤ v ∧ v < B * 10 ^ 0 ∧ p ≤ p ∧ p ≤ p + 0
    omega
  | k + 1, v, p, B, h => by
    rw [numL_s]
    by_cases hd : isDg t p 48
    · rw [if_pos hd]
      have ih := numL_rng t k (10 * v + (t.getD p 0 - 48)) (p + 1) (10 * B) (by omega)
      rw [Int.pow_succ]
      have e : B * (10 ^ k * 10) = 10 * B * 10 ^ k := by
        rw [Int.mul_comm (10 ^ k) 10, ← Int.mul_assoc, Int.mul_comm B 10]
      omega
    · rw [if_neg hd]
      have h1 : B * 1 ≤ B * 10 ^ (k + 1) := Int.mul_le_mul_of_nonneg_left (by have : (0 : Int) < 10 ^ (k + 1) := Int.pow_pos (by decide); omega) (by omega)
      show 0 ≤ v ∧ v < B * 10 ^ (k + 1) ∧ p ≤ p ∧ p ≤ p + (k + 1)
      omega
theorem numF_rng {t : List Int} {lo : Int} {dg p : Nat} (hl : 48 ≤ lo) (hd : dg ≤ 3) : ((numF t lo dg p).1 = -1 ∨ 0 ≤ (numF t lo dg p).1) ∧ -1 ≤ (numF t lo dg p).1 ∧ (numF t lo dg p).1 ≤ 999 ∧ p ≤ (numF t lo dg p).2 := by
  unfold numF
  by_cases h : isDg t p lo
  · rw [if_pos h]
    have g := numL_rng t (if t.getD p 0 - 48 = 0 then 0 else dg - 1) (t.getD p 0 - 48) (p + 1) 10 (by omega)
    have hk : (if t.getD p 0 - 48 = 0 then 0 else dg - 1) ≤ 2 := by
      split
      · omega
      · omega
    generalize (if t.getD p 0 - 48 = 0 then 0 else dg - 1) = k at g hk ⊢
    rcases (by omega : k = 0 ∨ k = 1 ∨ k = 2) with e | e | e <;> subst e <;> simp at g ⊢ <;> omega
  · rw [if_neg h]
    show ((-1 : Int) = -1 ∨ 0 ≤ (-1 : Int)) ∧ -1 ≤ (-1 : Int) ∧ (-1 : Int) ≤ 999 ∧ p ≤ p
    omega
def siteF (t : List Int) (p : Nat) : Option (Int × Int × Int × Int) × Nat :=
  if (numF t 49 1 p).1 = -1 then (none, (numF t 49 1 p).2) else
  if ¬ sg t (numF t 49 1 p).2 42 then (none, (numF t 49 1 p).2) else
  if (numF t 49 2 ((numF t 49 1 p).2 + 1)).1 = -1 then (none, (numF t 49 2 ((numF t 49 1 p).2 + 1)).2) else
  if ¬ sg t (numF t 49 2 ((numF t 49 1 p).2 + 1)).2 64 then (none, (numF t 49 2 ((numF t 49 1 p).2 + 1)).2) else
  if (numF t 48 3 ((numF t 49 2 ((numF t 49 1 p).2 + 1)).2 + 1)).1 = -1 then (none, (numF t 48 3 ((numF t 49 2 ((numF t 49 1 p).2 + 1)).2 + 1)).2) else
  if ¬ sg t (numF t 48 3 ((numF t 49 2 ((numF t 49 1 p).2 + 1)).2 + 1)).2 45 then (none, (numF t 48 3 ((numF t 49 2 ((numF t 49 1 p).2 + 1)).2 + 1)).2) else
  if (numF t 48 3 ((numF t 48 3 ((numF t 49 2 ((numF t 49 1 p).2 + 1)).2 + 1)).2 + 1)).1 = -1 then (none, (numF t 48 3 ((numF t 48 3 ((numF t 49 2 ((numF t 49 1 p).2 + 1)).2 + 1)).2 + 1)).2) else
  (some ((numF t 49 1 p).1, (numF t 49 2 ((numF t 49 1 p).2 + 1)).1, (numF t 48 3 ((numF t 49 2 ((numF t 49 1 p).2 + 1)).2 + 1)).1, (numF t 48 3 ((numF t 48 3 ((numF t 49 2 ((numF t 49 1 p).2 + 1)).2 + 1)).2 + 1)).1), (numF t 48 3 ((numF t 48 3 ((numF t 49 2 ((numF t 49 1 p).2 + 1)).2 + 1)).2 + 1)).2)
/-- line i of the text at a holds a site -/
def Ln (M : xM) (a i : Nat) (q : Int × Int × Int × Int) : Prop := M (a + 3 + i) 0 = q.1 ∧ M (a + 3 + i) 1 = q.2.1 ∧ M (a + 3 + i) 2 = q.2.2.1 ∧ M (a + 3 + i) 3 = q.2.2.2
def parL (t : List Int) : Nat → Nat → List (Int × Int × Int × Int) → Option (List (Int × Int × Int × Int)) × Nat
  | 0, p, L => (some L, p)
  | n + 1, p, L => if p < t.length then (if t.getD p 0 = 59 then (match siteF t (p + 1) with
    | (none, q) => (none, q)
    | (some s, q) => parL t n q (L ++ [s])) else (none, p)) else (some L, p)
def parF (t : List Int) : Option (List (Int × Int × Int × Int)) × Nat := match siteF t 0 with
  | (none, q) => (none, q)
  | (some s, q) => parL t 7 q [s]
set_option maxHeartbeats 4000000 in
set_option maxRecDepth 100000 in
theorem c_X3_isDigitFrom (l : Launch) (D : xD) (Bs sz : Nat) (kd : xKd) (rf : xRf) (M : xM) (a u : Nat) (lo : Int) (t : List Int) (hT : ShT kd rf a) (ht : TxO M a t) (hp : M a 4 = (u : Int)) (hl : IR lo) (hpr : u ≤ 100) : CtI l D Bs yX3_isDigitFrom cX3_isDigitFrom 2 (some .boolean) 0 [.ref a, vi lo] sz kd rf M (fun q M' => q = bi (isDg t u lo) ∧ M' = M) := by
  refine Ctr.of (yv_X3_isDigitFrom.1.2.2.2.2) (List.forall_mem_cons.mpr ⟨rfl, List.forall_mem_cons.mpr ⟨rfl, fun _ h => absurd h List.not_mem_nil⟩⟩) (Nat.le_of_ble_eq_true rfl) [some (.ref a), some (vi lo)] rfl ?_
  intro p e s m args below meth c X hin
  obtain ⟨⟨t1, t2⟩, t3⟩ := id ht
  refine G.okd (fun hok => ?_)
  have hch : ∀ j, j < t.length → 0 ≤ t.getD j 0 ∧ t.getD j 0 < 65536 := fun j hj => by
    rw [← t3 j hj]
    exact hok.2 (a + 1) 60 j (ShT.signs hT).1
  refine G.aload_n X 1 dX3_isDigitFrom_0 rfl rfl ?_
  refine G.getI X fl_X3_26 4 dX3_isDigitFrom_1 rfl (hT).1 ((hT).2.2.2.1 4 (by decide)) ?_
  refine G.aload_n X 5 dX3_isDigitFrom_4 rfl rfl ?_
  refine G.getI X fl_X3_22 8 dX3_isDigitFrom_5 rfl (hT).1 ((hT).2.2.2.1 1 (by decide)) ?_
  refine G.icmp_ge X 42 11 dX3_isDigitFrom_8 (by decide) rfl (by omega) (by omega) (fun hc8 => ?_) (fun hc8 => ?_)
  · refine G.iconst X 43 dX3_isDigitFrom_42 rfl ?_
    refine G.zret X dX3_isDigitFrom_43 ⟨Nat.le_refl _, Nat.le_refl _⟩ (Or.inl rfl) ⟨rfl, rfl, rfl, _, rfl, ?_⟩
    exact ⟨(bi_f (by omega)).symm, rfl⟩
  · refine G.aload_n X 12 dX3_isDigitFrom_11 rfl rfl ?_
    refine G.getR X fl_X3_9 15 dX3_isDigitFrom_12 rfl (hT).1 (hT).2.1 ?_
    refine G.aload_n X 16 dX3_isDigitFrom_15 rfl rfl ?_
    refine G.getI X fl_X3_26 19 dX3_isDigitFrom_16 rfl (hT).1 ((hT).2.2.2.1 4 (by decide)) ?_
    rw [hp]
    refine G.cald X 20 dX3_isDigitFrom_19 rfl (ShT.signs hT).1 ((ShT.signs hT).2 _) rfl (by omega) (by decide) ?_
    rw [t3 u (by omega)]
    have hch19 := hch u (by omega)
    refine G.iload_n X 21 dX3_isDigitFrom_20 rfl rfl ?_
    refine G.icmp_lt X 42 24 dX3_isDigitFrom_21 (by decide) rfl (by omega) (by omega) (fun hc21 => ?_) (fun hc21 => ?_)
    · refine G.iconst X 43 dX3_isDigitFrom_42 rfl ?_
      refine G.zret X dX3_isDigitFrom_43 ⟨Nat.le_refl _, Nat.le_refl _⟩ (Or.inl rfl) ⟨rfl, rfl, rfl, _, rfl, ?_⟩
      exact ⟨(bi_f (by omega)).symm, rfl⟩
    · refine G.aload_n X 25 dX3_isDigitFrom_24 rfl rfl ?_
      refine G.getR X fl_X3_9 28 dX3_isDigitFrom_25 rfl (hT).1 (hT).2.1 ?_
      refine G.aload_n X 29 dX3_isDigitFrom_28 rfl rfl ?_
      refine G.getI X fl_X3_26 32 dX3_isDigitFrom_29 rfl (hT).1 ((hT).2.2.2.1 4 (by decide)) ?_
      rw [hp]
      refine G.cald X 33 dX3_isDigitFrom_32 rfl (ShT.signs hT).1 ((ShT.signs hT).2 _) rfl (by omega) (by decide) ?_
      rw [t3 u (by omega)]
      have hch32 := hch u (by omega)
      refine G.bipush X 35 dX3_isDigitFrom_33 rfl (by decide) ?_
      refine G.icmp_gt X 42 38 dX3_isDigitFrom_35 (by decide) rfl (by omega) (by omega) (fun hc35 => ?_) (fun hc35 => ?_)
      · refine G.iconst X 43 dX3_isDigitFrom_42 rfl ?_
        refine G.zret X dX3_isDigitFrom_43 ⟨Nat.le_refl _, Nat.le_refl _⟩ (Or.inl rfl) ⟨rfl, rfl, rfl, _, rfl, ?_⟩
        exact ⟨(bi_f (by omega)).symm, rfl⟩
      · refine G.iconst X 39 dX3_isDigitFrom_38 rfl ?_
        refine G.goto X 43 dX3_isDigitFrom_39 (by decide) ?_
        refine G.zret X dX3_isDigitFrom_43 ⟨Nat.le_refl _, Nat.le_refl _⟩ (Or.inr rfl) ⟨rfl, rfl, rfl, _, rfl, ?_⟩
        exact ⟨(bi_t (by omega)).symm, rfl⟩
set_option maxHeartbeats 4000000 in
set_option maxRecDepth 100000 in
theorem c_X3_skip (l : Launch) (D : xD) (Bs sz : Nat) (kd : xKd) (rf : xRf) (M : xM) (a u : Nat) (c : Int) (t : List Int) (hT : ShT kd rf a) (ht : TxO M a t) (hp : M a 4 = (u : Int)) (hc : IR c) (hpr : u ≤ 100) : CtI l D Bs yX3_skip cX3_skip 2 (some .boolean) 0 [.ref a, vi c] sz kd rf M (fun q M' => sg t u c ∧ q = 1 ∧ M' = mu M a 4 ((u : Int) + 1) ∨ ¬ sg t u c ∧ q = 0 ∧ M' = M) := by
  refine Ctr.of (yv_X3_skip.1.2.2.2.2) (List.forall_mem_cons.mpr ⟨rfl, List.forall_mem_cons.mpr ⟨rfl, fun _ h => absurd h List.not_mem_nil⟩⟩) (Nat.le_of_ble_eq_true rfl) [some (.ref a), some (vi c)] rfl ?_
  intro p e s m args below meth c X hin
  obtain ⟨⟨t1, t2⟩, t3⟩ := id ht
  refine G.okd (fun hok => ?_)
  have hcr := hc
  have hch : ∀ j, j < t.length → 0 ≤ t.getD j 0 ∧ t.getD j 0 < 65536 := fun j hj => by
    rw [← t3 j hj]
    exact hok.2 (a + 1) 60 j (ShT.signs hT).1
  refine G.aload_n X 1 dX3_skip_0 rfl rfl ?_
  refine G.getI X fl_X3_26 4 dX3_skip_1 rfl (hT).1 ((hT).2.2.2.1 4 (by decide)) ?_
  refine G.aload_n X 5 dX3_skip_4 rfl rfl ?_
  refine G.getI X fl_X3_22 8 dX3_skip_5 rfl (hT).1 ((hT).2.2.2.1 1 (by decide)) ?_
  refine G.icmp_ge X 24 11 dX3_skip_8 (by decide) rfl (by omega) (by omega) (fun hc8 => ?_) (fun hc8 => ?_)
  · refine G.iconst X 25 dX3_skip_24 rfl ?_
    refine G.zret X dX3_skip_25 ⟨Nat.le_refl _, Nat.le_refl _⟩ (Or.inl rfl) ⟨rfl, rfl, rfl, _, rfl, ?_⟩
    exact Or.inr ⟨by omega, rfl, rfl⟩
  · refine G.aload_n X 12 dX3_skip_11 rfl rfl ?_
    refine G.getR X fl_X3_9 15 dX3_skip_12 rfl (hT).1 (hT).2.1 ?_
    refine G.aload_n X 16 dX3_skip_15 rfl rfl ?_
    refine G.getI X fl_X3_26 19 dX3_skip_16 rfl (hT).1 ((hT).2.2.2.1 4 (by decide)) ?_
    rw [hp]
    refine G.cald X 20 dX3_skip_19 rfl (ShT.signs hT).1 ((ShT.signs hT).2 _) rfl (by omega) (by decide) ?_
    rw [t3 u (by omega)]
    have hch19 := hch u (by omega)
    refine G.iload_n X 21 dX3_skip_20 rfl rfl ?_
    refine G.icmp_eq X 26 24 dX3_skip_21 (by decide) rfl (by omega) (by omega) (fun hc21 => ?_) (fun hc21 => ?_)
    · refine G.aload_n X 27 dX3_skip_26 rfl rfl ?_
      refine G.dup X 28 dX3_skip_27 rfl rfl ?_
      refine G.getf (v := vi ((u : Int))) X fl_X3_26 31 dX3_skip_28 rfl (hT).1 ((xV_int ((hT).2.2.2.1 4 (by decide))).trans (congrArg vi ?_)) ?_
      · exact hp
      refine G.iconst X 32 dX3_skip_31 rfl ?_
      refine G.iadd X 33 dX3_skip_32 rfl ?_
      refine G.putI X fl_X3_26 fi_3_4 rfl 36 dX3_skip_33 rfl (hT).1 ((hT).2.2.2.1 4 (by decide)) ?_
      refine G.iconst X 37 dX3_skip_36 rfl ?_
      refine G.zret X dX3_skip_37 ⟨Nat.le_refl _, Nat.le_refl _⟩ (Or.inr rfl) ⟨rfl, rfl, rfl, _, rfl, ?_⟩
      exact Or.inl ⟨by omega, rfl, rfl⟩
    · refine G.iconst X 25 dX3_skip_24 rfl ?_
      refine G.zret X dX3_skip_25 ⟨Nat.le_refl _, Nat.le_refl _⟩ (Or.inl rfl) ⟨rfl, rfl, rfl, _, rfl, ?_⟩
      exact Or.inr ⟨by omega, rfl, rfl⟩
set_option maxHeartbeats 4000000 in
set_option maxRecDepth 100000 in
theorem c_X3_readNumber (l : Launch) (D : xD) (Bs sz : Nat) (kd : xKd) (rf : xRf) (M : xM) (a u dg : Nat) (lo : Int) (t : List Int) (hT : ShT kd rf a) (ht : TxO M a t) (hp : M a 4 = (u : Int)) (hl : IR lo) (hpr : u ≤ 90) (hdg : 1 ≤ dg ∧ dg ≤ 3) : CtI l D Bs yX3_readNumber cX3_readNumber 6 (some .int) 1 [.ref a, vi lo, vi (dg : Int)] sz kd rf M (fun q M' => q = (numF t lo dg u).1 ∧ M' = mu M a 4 ((numF t lo dg u).2 : Int)) := by
  refine Ctr.of (yv_X3_readNumber.1.2.2.2.2) (List.forall_mem_cons.mpr ⟨rfl, List.forall_mem_cons.mpr ⟨rfl, List.forall_mem_cons.mpr ⟨rfl, fun _ h => absurd h List.not_mem_nil⟩⟩⟩) (Nat.le_of_ble_eq_true rfl) [some (.ref a), some (vi lo), some (vi (dg : Int)), none, none, none] rfl ?_
  intro p e s m args below meth c X hin
  obtain ⟨⟨t1, t2⟩, t3⟩ := id ht
  refine G.okd (fun hok => ?_)
  have hch : ∀ j, j < t.length → 0 ≤ t.getD j 0 ∧ t.getD j 0 < 65536 := fun j hj => by
    rw [← t3 j hj]
    exact hok.2 (a + 1) 60 j (ShT.signs hT).1
  have L49 : ∀ (k : Nat) (i q n : Nat) (v : Int), i + k = n → n ≤ 2 → q ≤ u + 1 + i → numL t k v q = numF t lo dg u → G p l e (rmd 1) s m args below meth c D Bs 6 0 0 (MQ below (xQ D Bs (pI sz kd rf (fun q M' => q = (numF t lo dg u).1 ∧ M' = mu M a 4 ((numF t lo dg u).2 : Int)))) args s 0 0 (fun q => Bs ≤ q)) sz kd rf (mu M a 4 (q : Int)) 49 [some (.ref a), some (vi lo), some (vi (dg : Int)), some (vi v), some (vi (n : Int)), some (vi (i : Int))] [] := by
    intro k
    induction k with
    | zero =>
      intro i q n v hik hn hq hres
      refine G.iload X 51 dX3_readNumber_49 rfl rfl ?_
      refine G.iload X 53 dX3_readNumber_51 rfl rfl ?_
      refine G.icmp_ge X 99 56 dX3_readNumber_53 (by decide) rfl (by omega) (by omega) (fun hc53 => ?_) (fun hc53 => ?_)
      · refine G.iload_n X 100 dX3_readNumber_99 rfl rfl ?_
        refine G.iret X dX3_readNumber_100 ⟨Nat.le_refl _, Nat.le_refl _⟩ ⟨rfl, rfl, rfl, _, rfl, ?_⟩
        rw [← hres]
        exact ⟨rfl, rfl⟩
      · exfalso; omega
    | succ k ih =>
      intro i q n v hik hn hq hres
      refine G.iload X 51 dX3_readNumber_49 rfl rfl ?_
      refine G.iload X 53 dX3_readNumber_51 rfl rfl ?_
      refine G.icmp_ge X 99 56 dX3_readNumber_53 (by decide) rfl (by omega) (by omega) (fun hc53 => ?_) (fun hc53 => ?_)
      · exfalso; omega
      · refine G.aload_n X 57 dX3_readNumber_56 rfl rfl ?_
        refine G.bipush X 59 dX3_readNumber_57 rfl (by decide) ?_
        refine G.vI1 (d := 0) X ml_X3_48 yv_X3_isDigitFrom 62 dX3_readNumber_59 rfl (c_X3_isDigitFrom l D Bs _ kd rf _ a q 48 t (hT) (ht.mv (by decide)) mu_same (by omega) (by omega)) ⟨_, _, (hT).1, rfl, rfl⟩ (by decide) ⟨Nat.zero_le _, Nat.zero_le _⟩ (Nat.le_of_ble_eq_true rfl) (fun r59 M59 h59 => ?_)
        obtain ⟨hr59, hm59⟩ := h59
        subst hr59
        obtain rfl := hm59.symm
        refine G.ifb_eq X 99 65 dX3_readNumber_62 (by decide) rfl (fun hc62 => ?_) (fun hc62 => ?_)
        · refine G.iload_n X 100 dX3_readNumber_99 rfl rfl ?_
          refine G.iret X dX3_readNumber_100 ⟨Nat.le_refl _, Nat.le_refl _⟩ ⟨rfl, rfl, rfl, _, rfl, ?_⟩
          rw [numL_s, if_neg hc62] at hres
          rw [← hres]
          exact ⟨rfl, rfl⟩
        · refine G.bipush X 67 dX3_readNumber_65 rfl (by decide) ?_
          refine G.iload_n X 68 dX3_readNumber_67 rfl rfl ?_
          refine G.imul X 69 dX3_readNumber_68 rfl ?_
          refine G.aload_n X 70 dX3_readNumber_69 rfl rfl ?_
          refine G.getR X fl_X3_9 73 dX3_readNumber_70 rfl (hT).1 (hT).2.1 ?_
          refine G.aload_n X 74 dX3_readNumber_73 rfl rfl ?_
          refine G.getf (v := vi ((q : Int))) X fl_X3_26 77 dX3_readNumber_74 rfl (hT).1 ((xV_int ((hT).2.2.2.1 4 (by decide))).trans (congrArg vi ?_)) ?_
          · exact mu_same
          refine G.cald X 78 dX3_readNumber_77 rfl (ShT.signs hT).1 ((ShT.signs hT).2 _) rfl (by omega) (by decide) ?_
          rw [show mu M a 4 (q : Int) (a + 1) q = M (a + 1) q from mu_ne (Or.inl (by omega)), t3 q (by omega)]
          refine G.bipush X 80 dX3_readNumber_78 rfl (by decide) ?_
          refine G.isub X 81 dX3_readNumber_80 rfl ?_
          refine G.iadd X 82 dX3_readNumber_81 rfl ?_
          refine G.istore_n (ls' := [_, _, _, _, _, _]) X 83 dX3_readNumber_82 rfl (by decide) rfl ?_
          refine G.aload_n X 84 dX3_readNumber_83 rfl rfl ?_
          refine G.dup X 85 dX3_readNumber_84 rfl rfl ?_
          refine G.getf (v := vi ((q : Int))) X fl_X3_26 88 dX3_readNumber_85 rfl (hT).1 ((xV_int ((hT).2.2.2.1 4 (by decide))).trans (congrArg vi ?_)) ?_
          · exact mu_same
          refine G.iconst X 89 dX3_readNumber_88 rfl ?_
          refine G.iadd X 90 dX3_readNumber_89 rfl ?_
          refine G.putI X fl_X3_26 fi_3_4 rfl 93 dX3_readNumber_90 rfl (hT).1 ((hT).2.2.2.1 4 (by decide)) ?_
          refine G.iinc (ls' := [_, _, _, _, _, _]) X 96 dX3_readNumber_93 rfl rfl (by decide) rfl ?_
          refine G.goto X 49 dX3_readNumber_96 (by decide) ?_
          rw [numL_s, if_pos hc62] at hres
          refine G.eqm (M' := mu M a 4 ((q + 1 : Nat) : Int)) (by rw [mu_mu]; rfl) ?_
          exact ih (i + 1) (q + 1) n _ (by omega) hn (by omega) hres
  refine G.aload_n X 1 dX3_readNumber_0 rfl rfl ?_
  refine G.iload_n X 2 dX3_readNumber_1 rfl rfl ?_
  refine G.vI1 (d := 0) X ml_X3_48 yv_X3_isDigitFrom 5 dX3_readNumber_2 rfl (c_X3_isDigitFrom l D Bs _ kd rf _ _ _ _ _ (hT) ht hp hl (by omega)) ⟨_, _, (hT).1, rfl, rfl⟩ (by decide) ⟨Nat.zero_le _, Nat.zero_le _⟩ (Nat.le_of_ble_eq_true rfl) (fun r2 M2 h2 => ?_)
  obtain ⟨hr2, hm2⟩ := h2
  subst hr2
  obtain rfl := hm2.symm
  refine G.ifb_ne X 10 8 dX3_readNumber_5 (by decide) rfl (fun hc5 => ?_) (fun hc5 => ?_)
  · refine G.aload_n X 11 dX3_readNumber_10 rfl rfl ?_
    refine G.getR X fl_X3_9 14 dX3_readNumber_11 rfl (hT).1 (hT).2.1 ?_
    refine G.aload_n X 15 dX3_readNumber_14 rfl rfl ?_
    refine G.getI X fl_X3_26 18 dX3_readNumber_15 rfl (hT).1 ((hT).2.2.2.1 4 (by decide)) ?_
    rw [hp]
    refine G.cald X 19 dX3_readNumber_18 rfl (ShT.signs hT).1 ((ShT.signs hT).2 _) rfl (by omega) (by decide) ?_
    rw [t3 u (by omega)]
    have hch18 := hch u (by omega)
    refine G.bipush X 21 dX3_readNumber_19 rfl (by decide) ?_
    refine G.isub X 22 dX3_readNumber_21 rfl ?_
    refine G.istore_n (ls' := [_, _, _, _, _, _]) X 23 dX3_readNumber_22 rfl (by decide) rfl ?_
    refine G.aload_n X 24 dX3_readNumber_23 rfl rfl ?_
    refine G.dup X 25 dX3_readNumber_24 rfl rfl ?_
    refine G.getf (v := vi ((u : Int))) X fl_X3_26 28 dX3_readNumber_25 rfl (hT).1 ((xV_int ((hT).2.2.2.1 4 (by decide))).trans (congrArg vi ?_)) ?_
    · exact hp
    refine G.iconst X 29 dX3_readNumber_28 rfl ?_
    refine G.iadd X 30 dX3_readNumber_29 rfl ?_
    refine G.putI X fl_X3_26 fi_3_4 rfl 33 dX3_readNumber_30 rfl (hT).1 ((hT).2.2.2.1 4 (by decide)) ?_
    refine G.iload_n X 34 dX3_readNumber_33 rfl rfl ?_
    refine G.if_ne X 41 37 dX3_readNumber_34 (by decide) rfl (by omega) (fun hc34 => ?_) (fun hc34 => ?_)
    · refine G.iload_n X 42 dX3_readNumber_41 rfl rfl ?_
      refine G.iconst X 43 dX3_readNumber_42 rfl ?_
      refine G.isub X 44 dX3_readNumber_43 rfl ?_
      refine G.istore (ls' := [_, _, _, _, _, _]) X 46 dX3_readNumber_44 rfl (by decide) rfl ?_
      refine G.iconst X 47 dX3_readNumber_46 rfl ?_
      refine G.istore (ls' := [_, _, _, _, _, _]) X 49 dX3_readNumber_47 rfl (by decide) rfl ?_
      first
        | (rw [show (dg : Int) - 1 = ((dg - 1 : Nat) : Int) by omega]
           exact L49 (dg - 1) 0 (u + 1) (dg - 1) _ (by omega) (by omega) (by omega) (by unfold numF; rw [if_pos hc5, if_neg (by omega)]))
        | exact L49 0 0 (u + 1) 0 _ rfl (by omega) (by omega) (by unfold numF; rw [if_pos hc5, if_pos (by omega)])
    · refine G.iconst X 38 dX3_readNumber_37 rfl ?_
      refine G.goto X 44 dX3_readNumber_38 (by decide) ?_
      refine G.istore (ls' := [_, _, _, _, _, _]) X 46 dX3_readNumber_44 rfl (by decide) rfl ?_
      refine G.iconst X 47 dX3_readNumber_46 rfl ?_
      refine G.istore (ls' := [_, _, _, _, _, _]) X 49 dX3_readNumber_47 rfl (by decide) rfl ?_
      first
        | (rw [show (dg : Int) - 1 = ((dg - 1 : Nat) : Int) by omega]
           exact L49 (dg - 1) 0 (u + 1) (dg - 1) _ (by omega) (by omega) (by omega) (by unfold numF; rw [if_pos hc5, if_neg (by omega)]))
        | exact L49 0 0 (u + 1) 0 _ rfl (by omega) (by omega) (by unfold numF; rw [if_pos hc5, if_pos (by omega)])
  · refine G.iconst X 9 dX3_readNumber_8 rfl ?_
    refine G.iret X dX3_readNumber_9 ⟨Nat.le_refl _, Nat.le_refl _⟩ ⟨rfl, rfl, rfl, _, rfl, ?_⟩
    unfold numF
    rw [if_neg hc5]
    exact ⟨rfl, (mu_self hp).symm⟩
theorem sf0 {t : List Int} {u : Nat} (h : (numF t 49 1 u).1 = -1) : siteF t u = (none, (numF t 49 1 u).2) := by unfold siteF; rw [if_pos h]
theorem sf1 {t : List Int} {u : Nat} (h : ¬ (numF t 49 1 u).1 = -1) (h1 : ¬ sg t (numF t 49 1 u).2 42) : siteF t u = (none, (numF t 49 1 u).2) := by unfold siteF; rw [if_neg h, if_pos h1]
theorem sf2 {t : List Int} {u : Nat} (h : ¬ (numF t 49 1 u).1 = -1) (h1 : sg t (numF t 49 1 u).2 42) (h2 : (numF t 49 2 ((numF t 49 1 u).2 + 1)).1 = -1) : siteF t u = (none, (numF t 49 2 ((numF t 49 1 u).2 + 1)).2) := by unfold siteF; rw [if_neg h, if_neg (fun q => q h1), if_pos h2]
theorem sf3 {t : List Int} {u : Nat} (h : ¬ (numF t 49 1 u).1 = -1) (h1 : sg t (numF t 49 1 u).2 42) (h2 : ¬ (numF t 49 2 ((numF t 49 1 u).2 + 1)).1 = -1) (h3 : ¬ sg t (numF t 49 2 ((numF t 49 1 u).2 + 1)).2 64) : siteF t u = (none, (numF t 49 2 ((numF t 49 1 u).2 + 1)).2) := by unfold siteF; rw [if_neg h, if_neg (fun q => q h1), if_neg h2, if_pos h3]
theorem sf4 {t : List Int} {u : Nat} (h : ¬ (numF t 49 1 u).1 = -1) (h1 : sg t (numF t 49 1 u).2 42) (h2 : ¬ (numF t 49 2 ((numF t 49 1 u).2 + 1)).1 = -1) (h3 : sg t (numF t 49 2 ((numF t 49 1 u).2 + 1)).2 64) (h4 : (numF t 48 3 ((numF t 49 2 ((numF t 49 1 u).2 + 1)).2 + 1)).1 = -1) : siteF t u = (none, (numF t 48 3 ((numF t 49 2 ((numF t 49 1 u).2 + 1)).2 + 1)).2) := by unfold siteF; rw [if_neg h, if_neg (fun q => q h1), if_neg h2, if_neg (fun q => q h3), if_pos h4]
theorem sf5 {t : List Int} {u : Nat} (h : ¬ (numF t 49 1 u).1 = -1) (h1 : sg t (numF t 49 1 u).2 42) (h2 : ¬ (numF t 49 2 ((numF t 49 1 u).2 + 1)).1 = -1) (h3 : sg t (numF t 49 2 ((numF t 49 1 u).2 + 1)).2 64) (h4 : ¬ (numF t 48 3 ((numF t 49 2 ((numF t 49 1 u).2 + 1)).2 + 1)).1 = -1) (h5 : ¬ sg t (numF t 48 3 ((numF t 49 2 ((numF t 49 1 u).2 + 1)).2 + 1)).2 45) : siteF t u = (none, (numF t 48 3 ((numF t 49 2 ((numF t 49 1 u).2 + 1)).2 + 1)).2) := by unfold siteF; rw [if_neg h, if_neg (fun q => q h1), if_neg h2, if_neg (fun q => q h3), if_neg h4, if_pos h5]
theorem sf6 {t : List Int} {u : Nat} (h : ¬ (numF t 49 1 u).1 = -1) (h1 : sg t (numF t 49 1 u).2 42) (h2 : ¬ (numF t 49 2 ((numF t 49 1 u).2 + 1)).1 = -1) (h3 : sg t (numF t 49 2 ((numF t 49 1 u).2 + 1)).2 64) (h4 : ¬ (numF t 48 3 ((numF t 49 2 ((numF t 49 1 u).2 + 1)).2 + 1)).1 = -1) (h5 : sg t (numF t 48 3 ((numF t 49 2 ((numF t 49 1 u).2 + 1)).2 + 1)).2 45) (h6 : (numF t 48 3 ((numF t 48 3 ((numF t 49 2 ((numF t 49 1 u).2 + 1)).2 + 1)).2 + 1)).1 = -1) : siteF t u = (none, (numF t 48 3 ((numF t 48 3 ((numF t 49 2 ((numF t 49 1 u).2 + 1)).2 + 1)).2 + 1)).2) := by unfold siteF; rw [if_neg h, if_neg (fun q => q h1), if_neg h2, if_neg (fun q => q h3), if_neg h4, if_neg (fun q => q h5), if_pos h6]
theorem sf7 {t : List Int} {u : Nat} (h : ¬ (numF t 49 1 u).1 = -1) (h1 : sg t (numF t 49 1 u).2 42) (h2 : ¬ (numF t 49 2 ((numF t 49 1 u).2 + 1)).1 = -1) (h3 : sg t (numF t 49 2 ((numF t 49 1 u).2 + 1)).2 64) (h4 : ¬ (numF t 48 3 ((numF t 49 2 ((numF t 49 1 u).2 + 1)).2 + 1)).1 = -1) (h5 : sg t (numF t 48 3 ((numF t 49 2 ((numF t 49 1 u).2 + 1)).2 + 1)).2 45) (h6 : ¬ (numF t 48 3 ((numF t 48 3 ((numF t 49 2 ((numF t 49 1 u).2 + 1)).2 + 1)).2 + 1)).1 = -1) : siteF t u = (some ((numF t 49 1 u).1, (numF t 49 2 ((numF t 49 1 u).2 + 1)).1, (numF t 48 3 ((numF t 49 2 ((numF t 49 1 u).2 + 1)).2 + 1)).1, (numF t 48 3 ((numF t 48 3 ((numF t 49 2 ((numF t 49 1 u).2 + 1)).2 + 1)).2 + 1)).1), (numF t 48 3 ((numF t 48 3 ((numF t 49 2 ((numF t 49 1 u).2 + 1)).2 + 1)).2 + 1)).2) := by unfold siteF; rw [if_neg h, if_neg (fun q => q h1), if_neg h2, if_neg (fun q => q h3), if_neg h4, if_neg (fun q => q h5), if_neg h6]
theorem numL_lim (t : List Int) : ∀ (k : Nat) (v : Int) (p : Nat), p ≤ t.length → (numL t k v p).2 ≤ t.length
  | 0, v, p, h => h
  | k + 1, v, p, h => by
    rw [numL_s]
    by_cases hd : isDg t p 48
    · rw [if_pos hd]
      exact numL_lim t k _ (p + 1) hd.1
    · rw [if_neg hd]
      exact h
theorem numF_lim (t : List Int) (lo : Int) (dg p : Nat) (_h : 1 ≤ dg) (hp : p ≤ t.length + 100) : (numF t lo dg p).2 ≤ t.length ∨ (numF t lo dg p).2 = p := by
  unfold numF
  by_cases h : isDg t p lo
  · rw [if_pos h]
    exact Or.inl (numL_lim t _ _ _ h.1)
  · rw [if_neg h]
    exact Or.inr rfl
set_option maxHeartbeats 4000000 in
set_option maxRecDepth 100000 in
theorem c_X3_readSite (l : Launch) (D : xD) (Bs sz : Nat) (kd : xKd) (rf : xRf) (M : xM) (a u f : Nat) (t : List Int) (hT : ShT kd rf a) (ht : TxO M a t) (hp : M a 4 = (u : Int)) (hpr : u ≤ 70) (hf : M a 3 = (f : Int)) (hf8 : f < 8) : CtI l D Bs yX3_readSite cX3_readSite 5 (some .boolean) 2 [.ref a] sz kd rf M (fun q M' => (∃ z, siteF t u = (none, z) ∧ q = 0 ∧ M' = mu M a 4 (z : Int)) ∨ ∃ s z, siteF t u = (some s, z) ∧ q = 1 ∧ (M' a 4 = (z : Int) ∧ M' a 3 = (f : Int) + 1 ∧ M' a 1 = M a 1) ∧ Ln M' a f s ∧ ∀ x, x ≠ a → x ≠ a + 3 + f → M' x = M x) := by
  refine Ctr.of (yv_X3_readSite.1.2.2.2.2) (List.forall_mem_cons.mpr ⟨rfl, fun _ h => absurd h List.not_mem_nil⟩) (Nat.le_of_ble_eq_true rfl) [some (.ref a), none, none, none, none] rfl ?_
  intro p e s m args below meth c X hin
  obtain ⟨⟨t1, t2⟩, t3⟩ := id ht
  refine G.aload_n X 1 dX3_readSite_0 rfl rfl ?_
  refine G.bipush X 3 dX3_readSite_1 rfl (by decide) ?_
  refine G.iconst X 4 dX3_readSite_3 rfl ?_
  refine G.vI2 (d := 1) X ml_X3_40 yv_X3_readNumber 7 dX3_readSite_4 rfl (c_X3_readNumber l D Bs _ kd rf _ a (u) 1 49 t (hT) ht hp (by decide) (by omega) (by decide)) ⟨_, _, (hT).1, rfl, rfl⟩ (by decide) ⟨Nat.zero_le _, Nat.zero_le _⟩ (Nat.le_of_ble_eq_true rfl) (fun r4 M4 h4 => ?_)
  obtain ⟨hr4, hm4⟩ := h4
  subst hr4
  subst hm4
  have hg4 := numF_rng (t := t) (lo := 49) (dg := 1) (p := u) (by decide) (by decide)
  have hu4 := numF_lim t 49 1 (u) (by decide) (by omega)
  refine G.istore_n (ls' := [_, _, _, _, _]) X 8 dX3_readSite_7 rfl (by decide) rfl ?_
  refine G.iload_n X 9 dX3_readSite_8 rfl rfl ?_
  refine G.iconst X 10 dX3_readSite_9 rfl ?_
  refine G.icmp_eq X 22 13 dX3_readSite_10 (by decide) rfl (by omega) (by omega) (fun hc10 => ?_) (fun hc10 => ?_)
  · refine G.iconst X 23 dX3_readSite_22 rfl ?_
    refine G.zret X dX3_readSite_23 ⟨Nat.le_refl _, Nat.le_refl _⟩ (Or.inl rfl) ⟨rfl, rfl, rfl, _, rfl, ?_⟩
    first
      | exact Or.inl ⟨_, sf0 hc10, rfl, rfl⟩
      | exact Or.inl ⟨_, sf1 hc10 hk16, rfl, rfl⟩
  · refine G.aload_n X 14 dX3_readSite_13 rfl rfl ?_
    refine G.bipush X 16 dX3_readSite_14 rfl (by decide) ?_
    refine G.vI1 (d := 0) X ml_X3_36 yv_X3_skip 19 dX3_readSite_16 rfl (c_X3_skip l D Bs _ kd rf _ a ((numF t 49 1 u).2) 42 t (hT) (ht.mv (by decide)) mu_same (by decide) (by omega)) ⟨_, _, (hT).1, rfl, rfl⟩ (by decide) ⟨Nat.zero_le _, Nat.zero_le _⟩ (Nat.le_of_ble_eq_true rfl) (fun r16 M16 h16 => ?_)
    rcases h16 with ⟨hk16, hr16, hm16⟩ | ⟨hk16, hr16, hm16⟩
    · subst hr16
      subst hm16
      rw [mu_mu]
      refine G.if_ne X 24 22 dX3_readSite_19 (by decide) rfl (by omega) (fun hc19 => ?_) (fun hc19 => ?_)
      · refine G.aload_n X 25 dX3_readSite_24 rfl rfl ?_
        refine G.bipush X 27 dX3_readSite_25 rfl (by decide) ?_
        refine G.iconst X 28 dX3_readSite_27 rfl ?_
        refine G.vI2 (d := 1) X ml_X3_40 yv_X3_readNumber 31 dX3_readSite_28 rfl (c_X3_readNumber l D Bs _ kd rf _ a ((numF t 49 1 u).2 + 1) 2 49 t (hT) (ht.mv (by decide)) (by rw [mu_same]; omega) (by decide) (by omega) (by decide)) ⟨_, _, (hT).1, rfl, rfl⟩ (by decide) ⟨Nat.zero_le _, Nat.zero_le _⟩ (Nat.le_of_ble_eq_true rfl) (fun r28 M28 h28 => ?_)
        obtain ⟨hr28, hm28⟩ := h28
        subst hr28
        subst hm28
        rw [mu_mu]
        have hg28 := numF_rng (t := t) (lo := 49) (dg := 2) (p := (numF t 49 1 u).2 + 1) (by decide) (by decide)
        have hu28 := numF_lim t 49 2 ((numF t 49 1 u).2 + 1) (by decide) (by omega)
        refine G.istore_n (ls' := [_, _, _, _, _]) X 32 dX3_readSite_31 rfl (by decide) rfl ?_
        refine G.iload_n X 33 dX3_readSite_32 rfl rfl ?_
        refine G.iconst X 34 dX3_readSite_33 rfl ?_
        refine G.icmp_eq X 46 37 dX3_readSite_34 (by decide) rfl (by omega) (by omega) (fun hc34 => ?_) (fun hc34 => ?_)
        · refine G.iconst X 47 dX3_readSite_46 rfl ?_
          refine G.zret X dX3_readSite_47 ⟨Nat.le_refl _, Nat.le_refl _⟩ (Or.inl rfl) ⟨rfl, rfl, rfl, _, rfl, ?_⟩
          first
            | exact Or.inl ⟨_, sf2 hc10 hk16 hc34, rfl, rfl⟩
            | exact Or.inl ⟨_, sf3 hc10 hk16 hc34 hk40, rfl, rfl⟩
        · refine G.aload_n X 38 dX3_readSite_37 rfl rfl ?_
          refine G.bipush X 40 dX3_readSite_38 rfl (by decide) ?_
          refine G.vI1 (d := 0) X ml_X3_36 yv_X3_skip 43 dX3_readSite_40 rfl (c_X3_skip l D Bs _ kd rf _ a ((numF t 49 2 ((numF t 49 1 u).2 + 1)).2) 64 t (hT) (ht.mv (by decide)) mu_same (by decide) (by omega)) ⟨_, _, (hT).1, rfl, rfl⟩ (by decide) ⟨Nat.zero_le _, Nat.zero_le _⟩ (Nat.le_of_ble_eq_true rfl) (fun r40 M40 h40 => ?_)
          rcases h40 with ⟨hk40, hr40, hm40⟩ | ⟨hk40, hr40, hm40⟩
          · subst hr40
            subst hm40
            rw [mu_mu]
            refine G.if_ne X 48 46 dX3_readSite_43 (by decide) rfl (by omega) (fun hc43 => ?_) (fun hc43 => ?_)
            · refine G.aload_n X 49 dX3_readSite_48 rfl rfl ?_
              refine G.bipush X 51 dX3_readSite_49 rfl (by decide) ?_
              refine G.iconst X 52 dX3_readSite_51 rfl ?_
              refine G.vI2 (d := 1) X ml_X3_40 yv_X3_readNumber 55 dX3_readSite_52 rfl (c_X3_readNumber l D Bs _ kd rf _ a ((numF t 49 2 ((numF t 49 1 u).2 + 1)).2 + 1) 3 48 t (hT) (ht.mv (by decide)) (by rw [mu_same]; omega) (by decide) (by omega) (by decide)) ⟨_, _, (hT).1, rfl, rfl⟩ (by decide) ⟨Nat.zero_le _, Nat.zero_le _⟩ (Nat.le_of_ble_eq_true rfl) (fun r52 M52 h52 => ?_)
              obtain ⟨hr52, hm52⟩ := h52
              subst hr52
              subst hm52
              rw [mu_mu]
              have hg52 := numF_rng (t := t) (lo := 48) (dg := 3) (p := (numF t 49 2 ((numF t 49 1 u).2 + 1)).2 + 1) (by decide) (by decide)
              have hu52 := numF_lim t 48 3 ((numF t 49 2 ((numF t 49 1 u).2 + 1)).2 + 1) (by decide) (by omega)
              refine G.istore_n (ls' := [_, _, _, _, _]) X 56 dX3_readSite_55 rfl (by decide) rfl ?_
              refine G.iload_n X 57 dX3_readSite_56 rfl rfl ?_
              refine G.iconst X 58 dX3_readSite_57 rfl ?_
              refine G.icmp_eq X 70 61 dX3_readSite_58 (by decide) rfl (by omega) (by omega) (fun hc58 => ?_) (fun hc58 => ?_)
              · refine G.iconst X 71 dX3_readSite_70 rfl ?_
                refine G.zret X dX3_readSite_71 ⟨Nat.le_refl _, Nat.le_refl _⟩ (Or.inl rfl) ⟨rfl, rfl, rfl, _, rfl, ?_⟩
                first
                  | exact Or.inl ⟨_, sf4 hc10 hk16 hc34 hk40 hc58, rfl, rfl⟩
                  | exact Or.inl ⟨_, sf5 hc10 hk16 hc34 hk40 hc58 hk64, rfl, rfl⟩
              · refine G.aload_n X 62 dX3_readSite_61 rfl rfl ?_
                refine G.bipush X 64 dX3_readSite_62 rfl (by decide) ?_
                refine G.vI1 (d := 0) X ml_X3_36 yv_X3_skip 67 dX3_readSite_64 rfl (c_X3_skip l D Bs _ kd rf _ a ((numF t 48 3 ((numF t 49 2 ((numF t 49 1 u).2 + 1)).2 + 1)).2) 45 t (hT) (ht.mv (by decide)) mu_same (by decide) (by omega)) ⟨_, _, (hT).1, rfl, rfl⟩ (by decide) ⟨Nat.zero_le _, Nat.zero_le _⟩ (Nat.le_of_ble_eq_true rfl) (fun r64 M64 h64 => ?_)
                rcases h64 with ⟨hk64, hr64, hm64⟩ | ⟨hk64, hr64, hm64⟩
                · subst hr64
                  subst hm64
                  rw [mu_mu]
                  refine G.if_ne X 72 70 dX3_readSite_67 (by decide) rfl (by omega) (fun hc67 => ?_) (fun hc67 => ?_)
                  · refine G.aload_n X 73 dX3_readSite_72 rfl rfl ?_
                    refine G.bipush X 75 dX3_readSite_73 rfl (by decide) ?_
                    refine G.iconst X 76 dX3_readSite_75 rfl ?_
                    refine G.vI2 (d := 1) X ml_X3_40 yv_X3_readNumber 79 dX3_readSite_76 rfl (c_X3_readNumber l D Bs _ kd rf _ a ((numF t 48 3 ((numF t 49 2 ((numF t 49 1 u).2 + 1)).2 + 1)).2 + 1) 3 48 t (hT) (ht.mv (by decide)) (by rw [mu_same]; omega) (by decide) (by omega) (by decide)) ⟨_, _, (hT).1, rfl, rfl⟩ (by decide) ⟨Nat.zero_le _, Nat.zero_le _⟩ (Nat.le_of_ble_eq_true rfl) (fun r76 M76 h76 => ?_)
                    obtain ⟨hr76, hm76⟩ := h76
                    subst hr76
                    subst hm76
                    rw [mu_mu]
                    have hg76 := numF_rng (t := t) (lo := 48) (dg := 3) (p := (numF t 48 3 ((numF t 49 2 ((numF t 49 1 u).2 + 1)).2 + 1)).2 + 1) (by decide) (by decide)
                    have hu76 := numF_lim t 48 3 ((numF t 48 3 ((numF t 49 2 ((numF t 49 1 u).2 + 1)).2 + 1)).2 + 1) (by decide) (by omega)
                    refine G.istore (ls' := [_, _, _, _, _]) X 81 dX3_readSite_79 rfl (by decide) rfl ?_
                    refine G.iload X 83 dX3_readSite_81 rfl rfl ?_
                    refine G.iconst X 84 dX3_readSite_83 rfl ?_
                    refine G.icmp_eq X 96 87 dX3_readSite_84 (by decide) rfl (by omega) (by omega) (fun hc84 => ?_) (fun hc84 => ?_)
                    · refine G.iconst X 97 dX3_readSite_96 rfl ?_
                      refine G.zret X dX3_readSite_97 ⟨Nat.le_refl _, Nat.le_refl _⟩ (Or.inl rfl) ⟨rfl, rfl, rfl, _, rfl, ?_⟩
                      first
                        | exact Or.inl ⟨_, sf6 hc10 hk16 hc34 hk40 hc58 hk64 hc84, rfl, rfl⟩
                        | (exfalso; omega)
                    · refine G.aload_n X 88 dX3_readSite_87 rfl rfl ?_
                      refine G.getf (v := vi ((f : Int))) X fl_X3_29 91 dX3_readSite_88 rfl (hT).1 ((xV_int ((hT).2.2.2.1 3 (by decide))).trans (congrArg vi ?_)) ?_
                      · rw [mu_ne (Or.inr (by decide))]; exact hf
                      refine G.bipush X 93 dX3_readSite_91 rfl (by decide) ?_
                      refine G.icmp_lt X 98 96 dX3_readSite_93 (by decide) rfl (by omega) (by omega) (fun hc93 => ?_) (fun hc93 => ?_)
                      · refine G.aload_n X 99 dX3_readSite_98 rfl rfl ?_
                        refine G.getR X fl_X3_17 102 dX3_readSite_99 rfl (hT).1 (hT).2.2.1 ?_
                        refine G.aload_n X 103 dX3_readSite_102 rfl rfl ?_
                        refine G.getf (v := vi ((f : Int))) X fl_X3_29 106 dX3_readSite_103 rfl (hT).1 ((xV_int ((hT).2.2.2.1 3 (by decide))).trans (congrArg vi ?_)) ?_
                        · rw [mu_ne (Or.inr (by decide))]; exact hf
                        refine G.aald X (i := f) 107 dX3_readSite_106 rfl (ShT.kl hT) (by decide) (ShT.rl hT (by omega)) rfl (by omega) (by decide) ?_
                        refine G.iload_n X 108 dX3_readSite_107 rfl rfl ?_
                        refine G.iload_n X 109 dX3_readSite_108 rfl rfl ?_
                        refine G.iload_n X 110 dX3_readSite_109 rfl rfl ?_
                        refine G.iload X 112 dX3_readSite_110 rfl rfl ?_
                        refine G.vV4 (d := 0) X ml_X3_44 yv_X0_begin 115 dX3_readSite_112 rfl (c_X0_begin l D Bs _ kd rf _ _ _ _ _ _ (ShT.l hT (by omega))) ⟨_, _, (ShT.l hT (by omega)).1, rfl, rfl⟩ (by decide) ⟨Nat.zero_le _, Nat.zero_le _⟩ (Nat.le_of_ble_eq_true rfl) (fun M112 h112 => ?_)
                        obtain ⟨⟨b0, b1, b2, b3, -⟩, bo⟩ := h112
                        have ea := bo a (by omega)
                        refine G.aload_n X 116 dX3_readSite_115 rfl rfl ?_
                        refine G.dup X 117 dX3_readSite_116 rfl rfl ?_
                        refine G.getf (v := vi ((f : Int))) X fl_X3_29 120 dX3_readSite_117 rfl (hT).1 ((xV_int ((hT).2.2.2.1 3 (by decide))).trans (congrArg vi ?_)) ?_
                        · rw [ea, mu_ne (Or.inr (by decide))]; exact hf
                        refine G.iconst X 121 dX3_readSite_120 rfl ?_
                        refine G.iadd X 122 dX3_readSite_121 rfl ?_
                        refine G.putI X fl_X3_29 fi_3_3 rfl 125 dX3_readSite_122 rfl (hT).1 ((hT).2.2.2.1 3 (by decide)) ?_
                        refine G.iconst X 126 dX3_readSite_125 rfl ?_
                        refine G.zret X dX3_readSite_126 ⟨Nat.le_refl _, Nat.le_refl _⟩ (Or.inr rfl) ⟨rfl, rfl, rfl, _, rfl, ?_⟩
                        refine Or.inr ⟨_, _, sf7 hc10 hk16 hc34 hk40 hc58 hk64 hc84, rfl, ⟨?_, mu_same, ?_⟩, ?_, fun x x1 x2 => ?_⟩
                        · rw [mu_ne (Or.inr (by decide)), ea]
                          exact mu_same
                        · rw [mu_ne (Or.inr (by decide)), ea]
                          exact mu_ne (Or.inr (by decide))
                        · unfold Ln
                          have e : mu M112 a 3 ((f : Int) + 1) (a + 3 + f) = M112 (a + 3 + f) := ms_ne (by omega)
                          rw [e]
                          exact ⟨b0, b1, b2, b3⟩
                        · exact (ms_ne x1).trans ((bo x x2).trans (ms_ne x1))
                      · refine G.iconst X 97 dX3_readSite_96 rfl ?_
                        refine G.zret X dX3_readSite_97 ⟨Nat.le_refl _, Nat.le_refl _⟩ (Or.inl rfl) ⟨rfl, rfl, rfl, _, rfl, ?_⟩
                        first
                          | exact Or.inl ⟨_, sf6 hc10 hk16 hc34 hk40 hc58 hk64 hc84, rfl, rfl⟩
                          | (exfalso; omega)
                  · exact absurd hc67 (by decide)
                · subst hr64
                  subst hm64
                  refine G.if_ne X 72 70 dX3_readSite_67 (by decide) rfl (by omega) (fun hc67 => ?_) (fun hc67 => ?_)
                  · exact absurd hc67 (by decide)
                  · refine G.iconst X 71 dX3_readSite_70 rfl ?_
                    refine G.zret X dX3_readSite_71 ⟨Nat.le_refl _, Nat.le_refl _⟩ (Or.inl rfl) ⟨rfl, rfl, rfl, _, rfl, ?_⟩
                    first
                      | exact Or.inl ⟨_, sf4 hc10 hk16 hc34 hk40 hc58, rfl, rfl⟩
                      | exact Or.inl ⟨_, sf5 hc10 hk16 hc34 hk40 hc58 hk64, rfl, rfl⟩
            · exact absurd hc43 (by decide)
          · subst hr40
            subst hm40
            refine G.if_ne X 48 46 dX3_readSite_43 (by decide) rfl (by omega) (fun hc43 => ?_) (fun hc43 => ?_)
            · exact absurd hc43 (by decide)
            · refine G.iconst X 47 dX3_readSite_46 rfl ?_
              refine G.zret X dX3_readSite_47 ⟨Nat.le_refl _, Nat.le_refl _⟩ (Or.inl rfl) ⟨rfl, rfl, rfl, _, rfl, ?_⟩
              first
                | exact Or.inl ⟨_, sf2 hc10 hk16 hc34, rfl, rfl⟩
                | exact Or.inl ⟨_, sf3 hc10 hk16 hc34 hk40, rfl, rfl⟩
      · exact absurd hc19 (by decide)
    · subst hr16
      subst hm16
      refine G.if_ne X 24 22 dX3_readSite_19 (by decide) rfl (by omega) (fun hc19 => ?_) (fun hc19 => ?_)
      · exact absurd hc19 (by decide)
      · refine G.iconst X 23 dX3_readSite_22 rfl ?_
        refine G.zret X dX3_readSite_23 ⟨Nat.le_refl _, Nat.le_refl _⟩ (Or.inl rfl) ⟨rfl, rfl, rfl, _, rfl, ?_⟩
        first
          | exact Or.inl ⟨_, sf0 hc10, rfl, rfl⟩
          | exact Or.inl ⟨_, sf1 hc10 hk16, rfl, rfl⟩
