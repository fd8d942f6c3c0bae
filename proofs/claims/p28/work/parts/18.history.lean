set_option maxHeartbeats 4000000 in
set_option maxRecDepth 100000 in
theorem c_X4_passHours (l : Launch) (D : xD) (Bs sz : Nat) (kd : xKd) (rf : xRf) (M : xM) (b h : Nat) (r : xR) (hS : ShSt kd rf b) (hV : Vr r) (hM : St M b r) (hh : r 0 + h ≤ 999) : CtV l D Bs yX4_passHours cX4_passHours 3 none 5 [.ref b, vi (h : Int)] sz kd rf M (fun M' => St M' b (hoursR r h) ∧ Off M M' b 25) := by
  refine Ctr.of (yv_X4_passHours.1.2.2.2.2) (List.forall_mem_cons.mpr ⟨rfl, List.forall_mem_cons.mpr ⟨rfl, fun _ h => absurd h List.not_mem_nil⟩⟩) (Nat.le_of_ble_eq_true rfl) [some (.ref b), some (vi (h : Int)), none] rfl ?_
  intro p e s m args below meth c X hin
  have hv0 := hV.1.1
  have L2 : ∀ (k : Nat) (i : Nat) (M1 : xM), i + k = h → St M1 b (hoursR r i) → Off M M1 b 25 → G p l e (rmd 5) s m args below meth c D Bs 3 0 0 (MQ below (xQ D Bs (pV sz kd rf (fun M' => St M' b (hoursR r h) ∧ Off M M' b 25))) args s 0 0 (fun q => Bs ≤ q)) sz kd rf (M1) 2 [some (.ref b), some (vi (h : Int)), some (vi (i : Int))] [] := by
    intro k
    induction k with
    | zero =>
      intro i M1 hik hM1 hO1
      have hVi := hV.hours i (by omega)
      have e0 := (hoursR_n r i).2.2.1
      obtain rfl : i = h := by omega
      refine G.iload_n X 3 dX4_passHours_2 rfl rfl ?_
      refine G.iload_n X 4 dX4_passHours_3 rfl rfl ?_
      refine G.icmp_ge X 17 7 dX4_passHours_4 (by decide) rfl (by omega) (by omega) (fun hc4 => ?_) (fun hc4 => ?_)
      · refine G.vret X dX4_passHours_17 ⟨Nat.le_refl _, Nat.le_refl _⟩ ⟨rfl, rfl, rfl, rfl, ?_⟩
        exact ⟨hM1, hO1⟩
      · exfalso; omega
    | succ k ih =>
      intro i M1 hik hM1 hO1
      have hVi := hV.hours i (by omega)
      have e0 := (hoursR_n r i).2.2.1
      have hpre := hVi.pre (by omega)
      refine G.iload_n X 3 dX4_passHours_2 rfl rfl ?_
      refine G.iload_n X 4 dX4_passHours_3 rfl rfl ?_
      refine G.icmp_ge X 17 7 dX4_passHours_4 (by decide) rfl (by omega) (by omega) (fun hc4 => ?_) (fun hc4 => ?_)
      · exfalso; omega
      · refine G.aload_n X 8 dX4_passHours_7 rfl rfl ?_
        refine G.vV0 (d := 4) X ml_X4_140 yv_X4_passHour 11 dX4_passHours_8 rfl (c_X4_passHour l D Bs _ kd rf _ _ _ (hS) hVi.k hM1 hpre.1 hpre.2) ⟨_, _, (hS).1, rfl, rfl⟩ (by decide) ⟨Nat.zero_le _, Nat.zero_le _⟩ (Nat.le_of_ble_eq_true rfl) (fun M8 h8 => ?_)
        refine G.iinc (ls' := [_, _, _]) X 14 dX4_passHours_11 rfl rfl (by decide) rfl ?_
        refine G.goto X 2 dX4_passHours_14 (by decide) ?_
        exact ih (i + 1) _ (by omega) h8.1 (hO1.trans h8.2)
  refine G.iconst X 1 dX4_passHours_0 rfl ?_
  refine G.istore_n (ls' := [_, _, _]) X 2 dX4_passHours_1 rfl (by decide) rfl ?_
  exact L2 h 0 M (by omega) hM Off.rf
/-- the history at a holds the rows L, the newest first; o is its oldest place -/
def HisO (M : xM) (a o : Nat) (L : List xR) : Prop := (o < 5 ∧ M a 1 = (o : Int) ∧ M a 2 = (L.length : Int) ∧ L.length ≤ 5) ∧ ∀ j q, L[j]? = some q → St M (a + 2 + 25 * ((o + (L.length - 1 - j)) % 5)) q
def HisOk (M : xM) (a : Nat) (L : List xR) : Prop := ∃ o, HisO M a o L
def Bn (q : xR) : Prop := nS q ≤ 10 ∧ nC q ≤ 12
theorem HisO.push {M M' : xM} {a o : Nat} {L : List xR} {r : xR} (h : HisO M a o L) (hL : ∀ q ∈ L, Bn q) (hst : St M' (a + 2 + 25 * ((o + L.length) % 5)) r) (hoff : ∀ x, a + 2 ≤ x → x < a + 127 → (x < a + 2 + 25 * ((o + L.length) % 5) ∨ a + 2 + 25 * ((o + L.length) % 5) + 25 ≤ x) → M' x = M x)
    (e : L.length < 5 ∧ M' a 1 = (o : Int) ∧ M' a 2 = (L.length : Int) + 1 ∨ L.length = 5 ∧ M' a 1 = (((o + 1) % 5 : Nat) : Int) ∧ M' a 2 = 5) : HisOk M' a ((r :: L).take 5) := by
  obtain ⟨⟨h1, h2, h3, h4⟩, h5⟩ := h
  rcases e with ⟨e1, e2, e3⟩ | ⟨e1, e2, e3⟩
  · have hlen : ((r :: L).take 5).length = L.length + 1 := by simp; omega
    refine ⟨o, ⟨h1, e2, by rw [hlen, e3]; omega, by rw [hlen]; omega⟩, fun j q hq => ?_⟩
    rw [hlen]
    rw [List.getElem?_take] at hq
    split at hq
    · cases j with
      | zero =>
        rw [List.getElem?_cons_zero] at hq
        cases hq
        exact hst
      | succ j =>
        rw [List.getElem?_cons_succ] at hq
        have hj : j < L.length := (List.getElem?_eq_some_iff.mp hq).1
        rw [show L.length + 1 - 1 - (j + 1) = L.length - 1 - j by omega]
        refine (h5 j q hq).off (hL q (List.mem_of_getElem? hq)) (fun x x1 x2 => hoff x (by omega) (by omega) (by omega))
    · cases hq
  · have hlen : ((r :: L).take 5).length = 5 := by simp; omega
    refine ⟨(o + 1) % 5, ⟨by omega, e2, by rw [hlen, e3]; rfl, by rw [hlen]; omega⟩, fun j q hq => ?_⟩
    rw [hlen]
    rw [List.getElem?_take] at hq
    split at hq
    · cases j with
      | zero =>
        rw [List.getElem?_cons_zero] at hq
        cases hq
        rw [show ((o + 1) % 5 + (5 - 1 - 0)) % 5 = (o + L.length) % 5 by omega]
        exact hst
      | succ j =>
        rw [List.getElem?_cons_succ] at hq
        have hj : j < L.length := (List.getElem?_eq_some_iff.mp hq).1
        rw [show ((o + 1) % 5 + (5 - 1 - (j + 1))) % 5 = (o + (L.length - 1 - j)) % 5 by omega]
        refine (h5 j q hq).off (hL q (List.mem_of_getElem? hq)) (fun x x1 x2 => hoff x (by omega) (by omega) (by omega))
    · cases hq
theorem HisO.pop {M M' : xM} {a o : Nat} {L : List xR} {r : xR} (h : HisO M a o (r :: L)) (hL : ∀ q ∈ L, Bn q) (hoff : ∀ x, a + 2 ≤ x → x < a + 127 → M' x = M x) (e1 : M' a 1 = M a 1) (e2 : M' a 2 = (L.length : Int)) : HisO M' a o L := by
  obtain ⟨⟨h1, h2, h3, h4⟩, h5⟩ := h
  simp only [List.length_cons] at h3 h4 h5
  refine ⟨⟨h1, e1.trans h2, e2, by omega⟩, fun j q hq => ?_⟩
  have g := h5 (j + 1) q hq
  rw [show L.length + 1 - 1 - (j + 1) = L.length - 1 - j by omega] at g
  exact g.off (hL q (List.mem_of_getElem? hq)) (fun x x1 x2 => hoff x (by omega) (by omega))
theorem HisO.off {M M' : xM} {a o : Nat} {L : List xR} (h : HisO M a o L) (hL : ∀ q ∈ L, Bn q) (hoff : ∀ x, a ≤ x → x < a + 127 → M' x = M x) : HisO M' a o L := by
  obtain ⟨⟨h1, h2, h3, h4⟩, h5⟩ := h
  refine ⟨⟨h1, by rw [hoff a (by omega) (by omega)]; exact h2, by rw [hoff a (by omega) (by omega)]; exact h3, h4⟩, fun j q hq => ?_⟩
  exact (h5 j q hq).off (hL q (List.mem_of_getElem? hq)) (fun x x1 x2 => hoff x (by omega) (by omega))
theorem Vb.bn {r : xR} {w d : Int} (h : Vb r w d) : Bn r := ⟨h.n6.2, h.n7.2⟩
set_option maxHeartbeats 4000000 in
set_option maxRecDepth 100000 in
theorem c_X2_push (l : Launch) (D : xD) (Bs sz : Nat) (kd : xKd) (rf : xRf) (M : xM) (a b o : Nat) (L : List xR) (r : xR) (hH : ShH kd rf a) (hS : ShSt kd rf b) (hV : Vk r) (hM : St M b r) (hh : HisO M a o L) (hL : ∀ q ∈ L, Bn q) (hd : b + 25 ≤ a ∨ a + 127 ≤ b) : CtV l D Bs yX2_push cX2_push 2 none 2 [.ref a, .ref b] sz kd rf M (fun M' => HisOk M' a ((r :: L).take 5) ∧ Off M M' a 127) := by
  refine Ctr.of (yv_X2_push.1.2.2.2.2) (List.forall_mem_cons.mpr ⟨rfl, List.forall_mem_cons.mpr ⟨rfl, fun _ h => absurd h List.not_mem_nil⟩⟩) (Nat.le_of_ble_eq_true rfl) [some (.ref a), some (.ref b)] rfl ?_
  intro p e s m args below meth c X hin
  obtain ⟨⟨h1, h2, h3, h4⟩, -⟩ := id hh
  refine G.aload_n X 1 dX2_push_0 rfl rfl ?_
  refine G.getR X fl_X2_11 4 dX2_push_1 rfl (hH).1 (hH).2.1 ?_
  refine G.aload_n X 5 dX2_push_4 rfl rfl ?_
  refine G.getI X fl_X2_18 8 dX2_push_5 rfl (hH).1 ((hH).2.2.1 1 (by decide)) ?_
  refine G.aload_n X 9 dX2_push_8 rfl rfl ?_
  refine G.getI X fl_X2_22 12 dX2_push_9 rfl (hH).1 ((hH).2.2.1 2 (by decide)) ?_
  refine G.iadd X 13 dX2_push_12 rfl ?_
  refine G.iconst X 14 dX2_push_13 rfl ?_
  refine G.iremI X 15 dX2_push_14 rfl (by omega) (by omega) ?_
  refine G.aald X (i := ((o + L.length) % 5)) 16 dX2_push_15 rfl (ShH.k hH) (by decide) (ShH.r hH (by omega)) (by omega) (by omega) (by decide) ?_
  refine G.aload_n X 17 dX2_push_16 rfl rfl ?_
  refine G.vV1 (d := 1) X ml_X2_25 yv_X4_copyFrom 20 dX2_push_17 rfl (c_X4_copyFrom l D Bs _ kd rf _ _ _ _ (ShH.s hH (by omega)) hS hV hM (by omega)) ⟨_, _, (ShH.s hH (by omega)).1, rfl, rfl⟩ (by decide) ⟨Nat.zero_le _, Nat.zero_le _⟩ (Nat.le_of_ble_eq_true rfl) (fun M17 h17 => ?_)
  have ea : M17 a = M a := h17.2 a (by omega)
  refine G.aload_n X 21 dX2_push_20 rfl rfl ?_
  refine G.getf (v := vi ((L.length : Int))) X fl_X2_22 24 dX2_push_21 rfl (hH).1 ((xV_int ((hH).2.2.1 2 (by decide))).trans (congrArg vi ?_)) ?_
  · rw [ea]; exact h3
  refine G.iconst X 25 dX2_push_24 rfl ?_
  refine G.icmp_ge X 41 28 dX2_push_25 (by decide) rfl (by omega) (by omega) (fun hc25 => ?_) (fun hc25 => ?_)
  · refine G.aload_n X 42 dX2_push_41 rfl rfl ?_
    refine G.aload_n X 43 dX2_push_42 rfl rfl ?_
    refine G.getf (v := vi ((o : Int))) X fl_X2_18 46 dX2_push_43 rfl (hH).1 ((xV_int ((hH).2.2.1 1 (by decide))).trans (congrArg vi ?_)) ?_
    · rw [ea]; exact h2
    refine G.iconst X 47 dX2_push_46 rfl ?_
    refine G.iadd X 48 dX2_push_47 rfl ?_
    refine G.iconst X 49 dX2_push_48 rfl ?_
    refine G.iremI X 50 dX2_push_49 rfl (by omega) (by omega) ?_
    refine G.putI X fl_X2_18 fi_2_1 rfl 53 dX2_push_50 rfl (hH).1 ((hH).2.2.1 1 (by decide)) ?_
    refine G.vret X dX2_push_53 ⟨Nat.le_refl _, Nat.le_refl _⟩ ⟨rfl, rfl, rfl, rfl, ?_⟩
    first
      | (refine ⟨hh.push hL (h17.1.off hV.bn (fun x x1 x2 => ms_ne (by omega))) (fun x x1 x2 x3 => (ms_ne (by omega)).trans (h17.2 x (by omega))) (Or.inl ⟨by omega, by rw [mu_ne (Or.inr (by decide)), ea]; exact h2, mu_same⟩), ?_⟩
         intro x hx
         exact (ms_ne (by omega)).trans (h17.2 x (by omega)))
      | (refine ⟨hh.push hL (h17.1.off hV.bn (fun x x1 x2 => ms_ne (by omega))) (fun x x1 x2 x3 => (ms_ne (by omega)).trans (h17.2 x (by omega))) (Or.inr ⟨by omega, by rw [mu_same]; omega, by rw [mu_ne (Or.inr (by decide)), ea]; omega⟩), ?_⟩
         intro x hx
         exact (ms_ne (by omega)).trans (h17.2 x (by omega)))
  · refine G.aload_n X 29 dX2_push_28 rfl rfl ?_
    refine G.dup X 30 dX2_push_29 rfl rfl ?_
    refine G.getf (v := vi ((L.length : Int))) X fl_X2_22 33 dX2_push_30 rfl (hH).1 ((xV_int ((hH).2.2.1 2 (by decide))).trans (congrArg vi ?_)) ?_
    · rw [ea]; exact h3
    refine G.iconst X 34 dX2_push_33 rfl ?_
    refine G.iadd X 35 dX2_push_34 rfl ?_
    refine G.putI X fl_X2_22 fi_2_2 rfl 38 dX2_push_35 rfl (hH).1 ((hH).2.2.1 2 (by decide)) ?_
    refine G.goto X 53 dX2_push_38 (by decide) ?_
    refine G.vret X dX2_push_53 ⟨Nat.le_refl _, Nat.le_refl _⟩ ⟨rfl, rfl, rfl, rfl, ?_⟩
    first
      | (refine ⟨hh.push hL (h17.1.off hV.bn (fun x x1 x2 => ms_ne (by omega))) (fun x x1 x2 x3 => (ms_ne (by omega)).trans (h17.2 x (by omega))) (Or.inl ⟨by omega, by rw [mu_ne (Or.inr (by decide)), ea]; exact h2, mu_same⟩), ?_⟩
         intro x hx
         exact (ms_ne (by omega)).trans (h17.2 x (by omega)))
      | (refine ⟨hh.push hL (h17.1.off hV.bn (fun x x1 x2 => ms_ne (by omega))) (fun x x1 x2 x3 => (ms_ne (by omega)).trans (h17.2 x (by omega))) (Or.inr ⟨by omega, by rw [mu_same]; omega, by rw [mu_ne (Or.inr (by decide)), ea]; omega⟩), ?_⟩
         intro x hx
         exact (ms_ne (by omega)).trans (h17.2 x (by omega)))
set_option maxHeartbeats 4000000 in
set_option maxRecDepth 100000 in
theorem c_X2_popInto0 (l : Launch) (D : xD) (Bs sz : Nat) (kd : xKd) (rf : xRf) (M : xM) (a b : Nat) (hH : ShH kd rf a) (hS : ShSt kd rf b) (h2 : M a 2 = 0) : CtI l D Bs yX2_popInto cX2_popInto 2 (some .boolean) 2 [.ref a, .ref b] sz kd rf M (fun q M' => q = 0 ∧ M' = M) := by
  refine Ctr.of (yv_X2_popInto.1.2.2.2.2) (List.forall_mem_cons.mpr ⟨rfl, List.forall_mem_cons.mpr ⟨rfl, fun _ h => absurd h List.not_mem_nil⟩⟩) (Nat.le_of_ble_eq_true rfl) [some (.ref a), some (.ref b)] rfl ?_
  intro p e s m args below meth c X hin
  refine G.aload_n X 1 dX2_popInto_0 rfl rfl ?_
  refine G.getI X fl_X2_22 4 dX2_popInto_1 rfl (hH).1 ((hH).2.2.1 2 (by decide)) ?_
  refine G.if_gt X 9 7 dX2_popInto_4 (by decide) rfl (by omega) (fun hc4 => ?_) (fun hc4 => ?_)
  · exfalso; omega
  · refine G.iconst X 8 dX2_popInto_7 rfl ?_
    refine G.zret X dX2_popInto_8 ⟨Nat.le_refl _, Nat.le_refl _⟩ (Or.inl rfl) ⟨rfl, rfl, rfl, _, rfl, ?_⟩
    exact ⟨rfl, rfl⟩
set_option maxHeartbeats 4000000 in
set_option maxRecDepth 100000 in
theorem c_X2_popInto1 (l : Launch) (D : xD) (Bs sz : Nat) (kd : xKd) (rf : xRf) (M : xM) (a b o : Nat) (L : List xR) (r : xR) (hH : ShH kd rf a) (hS : ShSt kd rf b) (hV : Vk r) (hh : HisO M a o (r :: L)) (hL : ∀ q ∈ L, Bn q) (hd : b + 25 ≤ a ∨ a + 127 ≤ b) : CtI l D Bs yX2_popInto cX2_popInto 2 (some .boolean) 2 [.ref a, .ref b] sz kd rf M (fun q M' => q = 1 ∧ (St M' b r ∧ HisO M' a o L) ∧ (M' a 2 = (L.length : Int)) ∧ ∀ x, x ≠ a → (x < b ∨ b + 25 ≤ x) → M' x = M x) := by
  refine Ctr.of (yv_X2_popInto.1.2.2.2.2) (List.forall_mem_cons.mpr ⟨rfl, List.forall_mem_cons.mpr ⟨rfl, fun _ h => absurd h List.not_mem_nil⟩⟩) (Nat.le_of_ble_eq_true rfl) [some (.ref a), some (.ref b)] rfl ?_
  intro p e s m args below meth c X hin
  obtain ⟨⟨h1, h2, h3, h4⟩, h5⟩ := id hh
  simp only [List.length_cons] at h3 h4
  have hr : St M (a + 2 + 25 * ((o + L.length) % 5)) r := h5 0 r rfl
  refine G.aload_n X 1 dX2_popInto_0 rfl rfl ?_
  refine G.getI X fl_X2_22 4 dX2_popInto_1 rfl (hH).1 ((hH).2.2.1 2 (by decide)) ?_
  refine G.if_gt X 9 7 dX2_popInto_4 (by decide) rfl (by omega) (fun hc4 => ?_) (fun hc4 => ?_)
  · refine G.aload_n X 10 dX2_popInto_9 rfl rfl ?_
    refine G.dup X 11 dX2_popInto_10 rfl rfl ?_
    refine G.getf (v := vi ((L.length : Int) + 1)) X fl_X2_22 14 dX2_popInto_11 rfl (hH).1 ((xV_int ((hH).2.2.1 2 (by decide))).trans (congrArg vi ?_)) ?_
    · omega
    refine G.iconst X 15 dX2_popInto_14 rfl ?_
    refine G.isub X 16 dX2_popInto_15 rfl ?_
    refine G.putI X fl_X2_22 fi_2_2 rfl 19 dX2_popInto_16 rfl (hH).1 ((hH).2.2.1 2 (by decide)) ?_
    refine G.aload_n X 20 dX2_popInto_19 rfl rfl ?_
    refine G.aload_n X 21 dX2_popInto_20 rfl rfl ?_
    refine G.getR X fl_X2_11 24 dX2_popInto_21 rfl (hH).1 (hH).2.1 ?_
    refine G.aload_n X 25 dX2_popInto_24 rfl rfl ?_
    refine G.getf (v := vi ((o : Int))) X fl_X2_18 28 dX2_popInto_25 rfl (hH).1 ((xV_int ((hH).2.2.1 1 (by decide))).trans (congrArg vi ?_)) ?_
    · rw [mu_ne (Or.inr (by decide))]; exact h2
    refine G.aload_n X 29 dX2_popInto_28 rfl rfl ?_
    refine G.getf (v := vi ((L.length : Int))) X fl_X2_22 32 dX2_popInto_29 rfl (hH).1 ((xV_int ((hH).2.2.1 2 (by decide))).trans (congrArg vi ?_)) ?_
    · rw [mu_same]; omega
    refine G.iadd X 33 dX2_popInto_32 rfl ?_
    refine G.iconst X 34 dX2_popInto_33 rfl ?_
    refine G.iremI X 35 dX2_popInto_34 rfl (by omega) (by omega) ?_
    refine G.aald X (i := ((o + L.length) % 5)) 36 dX2_popInto_35 rfl (ShH.k hH) (by decide) (ShH.r hH (by omega)) (by omega) (by omega) (by decide) ?_
    refine G.vV1 (d := 1) X ml_X2_25 yv_X4_copyFrom 39 dX2_popInto_36 rfl (c_X4_copyFrom l D Bs _ kd rf _ _ _ r (hS) (ShH.s hH (by omega)) hV (hr.off hV.bn (fun x x1 x2 => ms_ne (by omega))) (by omega)) ⟨_, _, (hS).1, rfl, rfl⟩ (by decide) ⟨Nat.zero_le _, Nat.zero_le _⟩ (Nat.le_of_ble_eq_true rfl) (fun M36 h36 => ?_)
    have ea : M36 a 1 = M a 1 ∧ M36 a 2 = (L.length : Int) := by
      rw [h36.2 a (by omega)]
      exact ⟨mu_ne (Or.inr (by decide)), by rw [mu_same]; omega⟩
    refine G.iconst X 40 dX2_popInto_39 rfl ?_
    refine G.zret X dX2_popInto_40 ⟨Nat.le_refl _, Nat.le_refl _⟩ (Or.inr rfl) ⟨rfl, rfl, rfl, _, rfl, ?_⟩
    refine ⟨rfl, ⟨h36.1, hh.pop hL (fun x x1 x2 => (h36.2 x (by omega)).trans (ms_ne (by omega))) ea.1 ea.2⟩, ea.2, fun x x1 x2 => (h36.2 x (by omega)).trans (ms_ne x1)⟩
  · exfalso; omega
/-- the text at a holds the signs t -/
def TxO (M : xM) (a : Nat) (t : List Int) : Prop := (M a 1 = (t.length : Int) ∧ t.length ≤ 60) ∧ ∀ j, j < t.length → M (a + 1) j = t.getD j 0
theorem TxO.off {M M' : xM} {a : Nat} {t : List Int} (h : TxO M a t) (h1 : M' a 1 = M a 1) (h2 : M' (a + 1) = M (a + 1)) : TxO M' a t := by
  refine ⟨⟨h1.trans h.1.1, h.1.2⟩, fun j hj => ?_⟩
  rw [h2]
  exact h.2 j hj
theorem TxO.add {M M' : xM} {a : Nat} {t : List Int} {c : Int} (h : TxO M a t) (hl : t.length < 60) (h1 : M' a 1 = (t.length : Int) + 1) (h2 : M' (a + 1) = fu (M (a + 1)) t.length c) : TxO M' a (t ++ [c]) := by
  refine ⟨⟨by rw [h1]; simp, by simp; omega⟩, fun j hj => ?_⟩
  rw [h2]
  simp only [List.getD_eq_getElem?_getD]
  by_cases e : j = t.length
  · subst e
    rw [fu_same]
    simp
  · have hj2 : j < t.length := by simp at hj; omega
    rw [fu_ne e, List.getElem?_append_left hj2, ← List.getD_eq_getElem?_getD]
    exact h.2 j hj2
