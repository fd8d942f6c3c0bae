set_option maxHeartbeats 1000000 in
set_option maxRecDepth 100000 in
theorem c_X0_init (l : Launch) (D : xD) (Bs sz : Nat) (kd : xKd) (rf : xRf) (M : xM) (a : Nat) (hC : IsC kd rf a) : CtV l D Bs yX0_init cX0_init 1 none 1 [.ref a] sz kd rf M (fun M' => M' = mu (mu M a 4 (-5)) a 8 (-5)) := by
  refine Ctr.of (yi_X0_init.1.2.2.2.2) (List.forall_mem_cons.mpr ⟨rfl, fun _ h => absurd h List.not_mem_nil⟩) (Nat.le_of_ble_eq_true rfl) [some (.ref a)] rfl ?_
  intro p e s m args below meth c X hin
  refine G.aload_n X 1 dX0_init_0 rfl rfl ?_
  refine G.objInit X ml_X0_3 4 dX0_init_1 rfl ⟨Nat.le_of_ble_eq_true rfl, Nat.le_of_ble_eq_true rfl⟩ ?_
  refine G.aload_n X 5 dX0_init_4 rfl rfl ?_
  refine G.bipush X 7 dX0_init_5 rfl (by decide) ?_
  refine G.putI X fl_X0_9 fi_0_4 rfl 10 dX0_init_7 rfl (hC).1 ((hC).2 4) ?_
  refine G.aload_n X 11 dX0_init_10 rfl rfl ?_
  refine G.bipush X 13 dX0_init_11 rfl (by decide) ?_
  refine G.putI X fl_X0_15 fi_0_8 rfl 16 dX0_init_13 rfl (hC).1 ((hC).2 8) ?_
  refine G.vret X dX0_init_16 ⟨Nat.le_refl _, Nat.le_refl _⟩ ⟨rfl, rfl, rfl, rfl, ?_⟩
  rfl
set_option maxHeartbeats 1000000 in
set_option maxRecDepth 100000 in
theorem c_X1_init (l : Launch) (D : xD) (Bs sz : Nat) (kd : xKd) (rf : xRf) (M : xM) (a : Nat) (hC : IsG kd rf a) : CtV l D Bs yX1_init cX1_init 1 none 1 [.ref a] sz kd rf M (fun M' => M' = mu M a 5 (-5)) := by
  refine Ctr.of (yi_X1_init.1.2.2.2.2) (List.forall_mem_cons.mpr ⟨rfl, fun _ h => absurd h List.not_mem_nil⟩) (Nat.le_of_ble_eq_true rfl) [some (.ref a)] rfl ?_
  intro p e s m args below meth c X hin
  refine G.aload_n X 1 dX1_init_0 rfl rfl ?_
  refine G.objInit X ml_X1_3 4 dX1_init_1 rfl ⟨Nat.le_of_ble_eq_true rfl, Nat.le_of_ble_eq_true rfl⟩ ?_
  refine G.aload_n X 5 dX1_init_4 rfl rfl ?_
  refine G.bipush X 7 dX1_init_5 rfl (by decide) ?_
  refine G.putI X fl_X1_9 fi_1_5 rfl 10 dX1_init_7 rfl (hC).1 ((hC).2 5) ?_
  refine G.vret X dX1_init_10 ⟨Nat.le_refl _, Nat.le_refl _⟩ ⟨rfl, rfl, rfl, rfl, ?_⟩
  rfl
def gz : Nat → Option Value := fun _ => none
def gz2 : Nat → Option Value := fun k => if k = 0 then some .null else none
def gz3 : Nat → Option Value := fun k => if k = 0 ∨ k = 2 then some .null else none
def gz4 : Nat → Option Value := fun k => if k = 9 ∨ k = 10 then some .null else none
def gz5 : Nat → Option Value := fun k => if k = 3 then none else some .null
theorem hgz0 : ∀ k, k < 9 → defaultValue (tyX0 k) = (gz k).getD (vi 0) := by
  intro k hk
  rcases (by omega : k = 0 ∨ k = 1 ∨ k = 2 ∨ k = 3 ∨ k = 4 ∨ k = 5 ∨ k = 6 ∨ k = 7 ∨ k = 8) with e | e | e | e | e | e | e | e | e <;> subst e <;> first | exact vi_0 | rfl
theorem hgz1 : ∀ k, k < 9 → defaultValue (tyX1 k) = (gz k).getD (vi 0) := by
  intro k hk
  rcases (by omega : k = 0 ∨ k = 1 ∨ k = 2 ∨ k = 3 ∨ k = 4 ∨ k = 5 ∨ k = 6 ∨ k = 7 ∨ k = 8) with e | e | e | e | e | e | e | e | e <;> subst e <;> first | exact vi_0 | rfl
theorem hgz2 : ∀ k, k < 3 → defaultValue (tyX2 k) = (gz2 k).getD (vi 0) := by
  intro k hk
  rcases (by omega : k = 0 ∨ k = 1 ∨ k = 2) with e | e | e <;> subst e <;> first | exact vi_0 | rfl
theorem hgz3 : ∀ k, k < 5 → defaultValue (tyX3 k) = (gz3 k).getD (vi 0) := by
  intro k hk
  rcases (by omega : k = 0 ∨ k = 1 ∨ k = 2 ∨ k = 3 ∨ k = 4) with e | e | e | e | e <;> subst e <;> first | exact vi_0 | rfl
theorem hgz4 : ∀ k, k < 11 → defaultValue (tyX4 k) = (gz4 k).getD (vi 0) := by
  intro k hk
  rcases (by omega : k = 0 ∨ k = 1 ∨ k = 2 ∨ k = 3 ∨ k = 4 ∨ k = 5 ∨ k = 6 ∨ k = 7 ∨ k = 8 ∨ k = 9 ∨ k = 10) with e | e | e | e | e | e | e | e | e | e | e <;> subst e <;> first | exact vi_0 | rfl
theorem hgz5 : ∀ k, k < 7 → defaultValue (tyX5 k) = (gz5 k).getD (vi 0) := by
  intro k hk
  rcases (by omega : k = 0 ∨ k = 1 ∨ k = 2 ∨ k = 3 ∨ k = 4 ∨ k = 5 ∨ k = 6) with e | e | e | e | e | e | e <;> subst e <;> first | exact vi_0 | rfl
abbrev Old (b : Nat) (kd : xKd) (rf : xRf) (M : xM) (kd' : xKd) (rf' : xRf) (M' : xM) : Prop := ∀ a, a < b → kd' a = kd a ∧ (∀ k, rf' a k = rf a k) ∧ M' a = M a
def StP (b n1 n2 : Nat) (kd : xKd) (rf : xRf) (M : xM) (kd1 : xKd) (rf1 : xRf) (M1 : xM) : Prop := Old b kd rf M kd1 rf1 M1 ∧ kd1 b = some (.inl 4) ∧ (∀ k, k < 9 → rf1 b k = none) ∧ rf1 b 9 = some (.ref (b + 1)) ∧ rf1 b 10 = some (.ref (b + 2)) ∧ kd1 (b + 1) = some (.inr (2, 10)) ∧ kd1 (b + 2) = some (.inr (3, 12)) ∧ (∀ i, i < n1 → rf1 (b + 1) i = some (.ref (b + 3 + i)) ∧ IsG kd1 rf1 (b + 3 + i)) ∧ (∀ i, i < n2 → rf1 (b + 2) i = some (.ref (b + 13 + i)) ∧ IsC kd1 rf1 (b + 13 + i)) ∧ (M1 b 0 = 0 ∧ M1 b 1 = 5 ∧ M1 b 2 = 10 ∧ ∀ k, 3 ≤ k → k < 9 → M1 b k = 0)
theorem StP.sh {b : Nat} {kd kd1 : xKd} {rf rf1 : xRf} {M M1 : xM} (h : StP b 10 12 kd rf M kd1 rf1 M1) : ShSt kd1 rf1 b := by
  obtain ⟨-, k0, r0, r9, r10, k1, k2, hg, hc, -⟩ := h
  exact ⟨k0, r0, r9, r10, k1, k2, hg, hc⟩
theorem StP.g {b i : Nat} {kd kd1 : xKd} {rf rf1 : xRf} {M M1 : xM} (h : StP b i 0 kd rf M kd1 rf1 M1) : StP b (i + 1) 0 kd rf M (kn kd1 (b + 3 + i) (.inl 1)) (ru (rn rf1 (b + 3 + i) gz) (b + 1) i (.ref (b + 3 + i))) (mu (ms M1 (b + 3 + i) z0) (b + 3 + i) 5 (-5)) := by
  obtain ⟨hO, k0, r0, r9, r10, k1, k2, hg, hc, hm⟩ := h
  have em : ∀ a, a ≠ b + 3 + i → mu (ms M1 (b + 3 + i) z0) (b + 3 + i) 5 (-5) a = M1 a := fun a ha => (ms_ne ha).trans (ms_ne ha)
  have er : ∀ a k, a ≠ b + 3 + i → a ≠ b + 1 → ru (rn rf1 (b + 3 + i) gz) (b + 1) i (.ref (b + 3 + i)) a k = rf1 a k := fun a k h1 h2 => (ru_ne (Or.inl h2)).trans (rn_ne h1)
  refine ⟨fun a ha => ⟨(kn_ne (by omega)).trans (hO a ha).1, fun k => (er a k (by omega) (by omega)).trans ((hO a ha).2.1 k), (em a (by omega)).trans (hO a ha).2.2⟩, (kn_ne (by omega)).trans k0, fun k hk => (er b k (by omega) (by omega)).trans (r0 k hk), (er b 9 (by omega) (by omega)).trans r9, (er b 10 (by omega) (by omega)).trans r10, (kn_ne (by omega)).trans k1, (kn_ne (by omega)).trans k2, fun j hj => ?_, fun j hj => absurd hj (Nat.not_lt_zero j), ?_⟩
  · by_cases e : j = i
    · subst e
      exact ⟨ru_same, kn_same, fun k => (ru_ne (Or.inl (by omega))).trans rn_same⟩
    · obtain ⟨g1, g2, g3⟩ := hg j (by omega)
      exact ⟨(ru_ne (Or.inr e)).trans ((rn_ne (by omega)).trans g1), (kn_ne (by omega)).trans g2, fun k => (er _ k (by omega) (by omega)).trans (g3 k)⟩
  · rw [em b (by omega)]
    exact hm
theorem StP.c {b i : Nat} {kd kd1 : xKd} {rf rf1 : xRf} {M M1 : xM} (h : StP b 10 i kd rf M kd1 rf1 M1) : StP b 10 (i + 1) kd rf M (kn kd1 (b + 13 + i) (.inl 0)) (ru (rn rf1 (b + 13 + i) gz) (b + 2) i (.ref (b + 13 + i))) (mu (mu (ms M1 (b + 13 + i) z0) (b + 13 + i) 4 (-5)) (b + 13 + i) 8 (-5)) := by
  obtain ⟨hO, k0, r0, r9, r10, k1, k2, hg, hc, hm⟩ := h
  have em : ∀ a, a ≠ b + 13 + i → mu (mu (ms M1 (b + 13 + i) z0) (b + 13 + i) 4 (-5)) (b + 13 + i) 8 (-5) a = M1 a := fun a ha => (ms_ne ha).trans ((ms_ne ha).trans (ms_ne ha))
  have er : ∀ a k, a ≠ b + 13 + i → a ≠ b + 2 → ru (rn rf1 (b + 13 + i) gz) (b + 2) i (.ref (b + 13 + i)) a k = rf1 a k := fun a k h1 h2 => (ru_ne (Or.inl h2)).trans (rn_ne h1)
  refine ⟨fun a ha => ⟨(kn_ne (by omega)).trans (hO a ha).1, fun k => (er a k (by omega) (by omega)).trans ((hO a ha).2.1 k), (em a (by omega)).trans (hO a ha).2.2⟩, (kn_ne (by omega)).trans k0, fun k hk => (er b k (by omega) (by omega)).trans (r0 k hk), (er b 9 (by omega) (by omega)).trans r9, (er b 10 (by omega) (by omega)).trans r10, (kn_ne (by omega)).trans k1, (kn_ne (by omega)).trans k2, fun j hj => ?_, fun j hj => ?_, ?_⟩
  · obtain ⟨g1, g2, g3⟩ := hg j hj
    exact ⟨(er _ j (by omega) (by omega)).trans g1, (kn_ne (by omega)).trans g2, fun k => (er _ k (by omega) (by omega)).trans (g3 k)⟩
  · by_cases e : j = i
    · subst e
      exact ⟨ru_same, kn_same, fun k => (ru_ne (Or.inl (by omega))).trans rn_same⟩
    · obtain ⟨g1, g2, g3⟩ := hc j (by omega)
      exact ⟨(ru_ne (Or.inr e)).trans ((rn_ne (by omega)).trans g1), (kn_ne (by omega)).trans g2, fun k => (er _ k (by omega) (by omega)).trans (g3 k)⟩
  · rw [em b (by omega)]
    exact hm
theorem ShSt.old {kd kd' : xKd} {rf rf' : xRf} {b : Nat} (h : ShSt kd rf b) (hk : ∀ a, b ≤ a → a < b + 25 → kd' a = kd a ∧ ∀ k, rf' a k = rf a k) : ShSt kd' rf' b := by
  obtain ⟨k0, r0, r9, r10, k1, k2, hg, hc⟩ := h
  refine ⟨(hk b (by omega) (by omega)).1.trans k0, fun k h9 => ((hk b (by omega) (by omega)).2 k).trans (r0 k h9), ((hk b (by omega) (by omega)).2 9).trans r9, ((hk b (by omega) (by omega)).2 10).trans r10, (hk _ (by omega) (by omega)).1.trans k1, (hk _ (by omega) (by omega)).1.trans k2, fun i hi => ?_, fun i hi => ?_⟩
  · obtain ⟨g1, g2, g3⟩ := hg i hi
    exact ⟨((hk _ (by omega) (by omega)).2 i).trans g1, (hk _ (by omega) (by omega)).1.trans g2, fun k => ((hk _ (by omega) (by omega)).2 k).trans (g3 k)⟩
  · obtain ⟨g1, g2, g3⟩ := hc i hi
    exact ⟨((hk _ (by omega) (by omega)).2 i).trans g1, (hk _ (by omega) (by omega)).1.trans g2, fun k => ((hk _ (by omega) (by omega)).2 k).trans (g3 k)⟩
section GI
variable {p : Program} {l : Launch} {e : Env} {R : Room} {s : State} {m : MethodId} {args : Array Value} {below : List Frame} {meth : Method} {c : Code} {D : xD} {Bs nL cells slots : Nat} {Q : State → Prop} {sz : Nat} {kd : xKd} {rf : xRf} {M : xM} {cc : ByteArray} {own : String} {ret : Option FieldType} {pc : Nat} {ls : List (Option Value)} {st : List Value}
theorem G.at {cells' slots' sz' : Nat} (h1 : cells = cells') (h2 : slots = slots') (h3 : sz = sz') (kk : G p l e R s m args below meth c D Bs nL cells' slots' Q sz' kd rf M pc ls st) : G p l e R s m args below meth c D Bs nL cells slots Q sz kd rf M pc ls st := by
  subst h1 h2 h3
  exact kk
theorem G.iV0 (X : Cx p s m meth c args cc nL own ret D) {idx nn b d : Nat} {y : MethodName} {b2 : ByteArray} {rest : List Value} {P : xM → Prop} (ml : ML own idx y) (yv : YI y b2 nn 0) (pc' : Nat) (hd : decode cc pc = .ok (.invokespecial idx, 3)) (hp : pc + 3 = pc') (ct : CtV l D Bs y b2 nn none d [.ref b] sz kd rf M P) (hR : d + 1 ≤ R.frames ∧ 8 + (nn + 11) + 40 * d ≤ R.locals) (hf : cells ≤ R.cells ∧ slots ≤ R.slots) (hw : (rest.map fun v => v.category).sum ≤ 8)
    (kk : ∀ M' : xM, P M' → G p l e R s m args below meth c D Bs nL cells slots Q sz kd rf M' pc' ls rest) : G p l e R s m args below meth c D Bs nL cells slots Q sz kd rf M pc ls (.ref b :: rest) :=
  G.callI X (As := []) (rest := rest) ml yv pc' hd hp ct rfl hR ⟨rfl, rfl⟩ hf hw (fun v sz' kd' rf' M' h => by obtain ⟨rfl, rfl, rfl, rfl, h⟩ := h; exact kk M' h)
theorem G.iC0 (X : Cx p s m meth c args cc nL own ret D) {idx nn b d mc mz : Nat} {y : MethodName} {b2 : ByteArray} {rest : List Value} {post : xPost} (ml : ML own idx y) (yv : YI y b2 nn 0) (pc' : Nat) (hd : decode cc pc = .ok (.invokespecial idx, 3)) (hp : pc + 3 = pc') (ct : Ctr l D Bs y b2 nn none (rmc d mc mz) [.ref b] sz kd rf M mc mz post) (hpost : ∀ v sz' kd' rf' M', post v sz' kd' rf' M' → v = none) (hR : d + 1 ≤ R.frames ∧ 8 + (nn + 11) + 40 * d ≤ R.locals) (hf : cells + mc ≤ R.cells ∧ slots + mz ≤ R.slots) (hw : (rest.map fun v => v.category).sum ≤ 8)
    (kk : ∀ sz' kd' rf' M', post none sz' kd' rf' M' → G p l e R s m args below meth c D Bs nL (cells + mc) (slots + mz) Q sz' kd' rf' M' pc' ls rest) : G p l e R s m args below meth c D Bs nL cells slots Q sz kd rf M pc ls (.ref b :: rest) :=
  G.callI X (As := []) (rest := rest) ml yv pc' hd hp ct rfl hR ⟨rfl, rfl⟩ hf hw (fun v sz' kd' rf' M' h => by
    have hv := hpost v sz' kd' rf' M' h
    subst hv
    exact kk sz' kd' rf' M' h)
end GI
set_option maxHeartbeats 1000000 in
set_option maxRecDepth 100000 in
theorem c_X4_init (l : Launch) (D : xD) (Bs : Nat) (b : Nat) (kd : xKd) (rf : xRf) (M : xM) (hk : kd b = some (.inl 4)) (hr : ∀ k, rf b k = gz4 k) (hM : ∀ k, M b k = 0) : Ctr l D Bs yX4_init cX4_init 2 none (rmc 2 24 220) [.ref b] (b + 1) kd rf M 24 220 (fun v sz' kd' rf' M' => v = none ∧ sz' = b + 25 ∧ ShSt kd' rf' b ∧ (M' b 0 = 0 ∧ M' b 1 = 5 ∧ M' b 2 = 10 ∧ ∀ k, 3 ≤ k → k < 9 → M' b k = 0) ∧ Old b kd rf M kd' rf' M') := by
  refine Ctr.of (yi_X4_init.1.2.2.2.2) (List.forall_mem_cons.mpr ⟨rfl, fun _ h => absurd h List.not_mem_nil⟩) (Nat.le_of_ble_eq_true rfl) [some (.ref b), none] rfl ?_
  intro p e s m args below meth c X hin
  have hao := X.2.2.2.2.2.1.2.2
  have L62 : ∀ (k : Nat) (i : Nat) (kd1 : xKd) (rf1 : xRf) (M1 : xM), i + k = 12 → StP b 10 i kd rf M kd1 rf1 M1 → G p l e (rmc 2 24 220) s m args below meth c D Bs 2 (12 + i) (112 + 9 * i) (MQ below (xQ D Bs (fun v sz' kd' rf' M' => v = none ∧ sz' = b + 25 ∧ ShSt kd' rf' b ∧ (M' b 0 = 0 ∧ M' b 1 = 5 ∧ M' b 2 = 10 ∧ ∀ k, 3 ≤ k → k < 9 → M' b k = 0) ∧ Old b kd rf M kd' rf' M')) args s 24 220 (fun q => Bs ≤ q)) (b + 13 + i) kd1 rf1 M1 62 [some (.ref b), some (vi (i : Int))] [] := by
    intro k
    induction k with
    | zero =>
      intro i kd1 rf1 M1 hik hP
      obtain rfl : i = 12 := by omega
      refine G.iload_n X 63 dX4_init_62 rfl rfl ?_
      refine G.bipush X 65 dX4_init_63 rfl (by decide) ?_
      refine G.icmp_ge X 87 68 dX4_init_65 (by decide) rfl (by omega) (by omega) (fun hc65 => ?_) (fun hc65 => ?_)
      · refine G.vret X dX4_init_87 ⟨Nat.le_of_ble_eq_true rfl, Nat.le_of_ble_eq_true rfl⟩ ⟨rfl, rfl, hP.sh, hP.2.2.2.2.2.2.2.2.2, hP.1⟩
      · exfalso; omega
    | succ k ih =>
      intro i kd1 rf1 M1 hik hP
      obtain ⟨hO, k0, r0, r9, r10, k1, k2, hg, hc, hm⟩ := id hP
      refine G.iload_n X 63 dX4_init_62 rfl rfl ?_
      refine G.bipush X 65 dX4_init_63 rfl (by decide) ?_
      refine G.icmp_ge X 87 68 dX4_init_65 (by decide) rfl (by omega) (by omega) (fun hc65 => ?_) (fun hc65 => ?_)
      · exfalso; omega
      · refine G.aload_n X 69 dX4_init_68 rfl rfl ?_
        refine G.getR X fl_X4_26 72 dX4_init_69 rfl k0 r10 ?_
        refine G.iload_n X 73 dX4_init_72 rfl rfl ?_
        refine G.newo (ci := 0) (C := RX0) (T := TX0) (N := 9) X gz rfl cl_X4_24 inst0 ini_X0 tyX0_ok hgz0 76 dX4_init_73 rfl ⟨by show 12 + i + 1 ≤ 24; omega, by show 112 + 9 * i + 9 ≤ 220; omega⟩ ?_
        refine G.dup X 77 dX4_init_76 rfl rfl ?_
        refine G.iV0 (d := 1) X ml_X4_31 yi_X0_init 80 dX4_init_77 rfl (c_X0_init l D Bs _ _ _ _ (b + 13 + i) ⟨kn_same, fun k => rn_same⟩) (by decide) ⟨by show 12 + i + 1 ≤ 24; omega, by show 112 + 9 * i + 9 ≤ 220; omega⟩ (Nat.le_of_ble_eq_true rfl) (fun M77 h77 => ?_)
        subst h77
        refine G.astq X (t := 3) (i := i) (n := 12) 81 dX4_init_80 rfl ((kn_ne (by omega)).trans k2) (by decide) rfl kn_same rfl rfl (by omega) (by decide) ?_
        refine G.iinc (ls' := [_, _]) X 84 dX4_init_81 rfl rfl (by decide) rfl ?_
        refine G.goto X 62 dX4_init_84 (by decide) ?_
        refine G.at (cells' := 12 + (i + 1)) (slots' := 112 + 9 * (i + 1)) (sz' := b + 13 + (i + 1)) (by omega) (by omega) (by omega) ?_
        exact ih (i + 1) _ _ _ (by omega) hP.c
  have L35 : ∀ (k : Nat) (i : Nat) (kd1 : xKd) (rf1 : xRf) (M1 : xM), i + k = 10 → StP b i 0 kd rf M kd1 rf1 M1 → G p l e (rmc 2 24 220) s m args below meth c D Bs 2 (2 + i) (22 + 9 * i) (MQ below (xQ D Bs (fun v sz' kd' rf' M' => v = none ∧ sz' = b + 25 ∧ ShSt kd' rf' b ∧ (M' b 0 = 0 ∧ M' b 1 = 5 ∧ M' b 2 = 10 ∧ ∀ k, 3 ≤ k → k < 9 → M' b k = 0) ∧ Old b kd rf M kd' rf' M')) args s 24 220 (fun q => Bs ≤ q)) (b + 3 + i) kd1 rf1 M1 35 [some (.ref b), some (vi (i : Int))] [] := by
    intro k
    induction k with
    | zero =>
      intro i kd1 rf1 M1 hik hP
      obtain rfl : i = 10 := by omega
      refine G.iload_n X 36 dX4_init_35 rfl rfl ?_
      refine G.bipush X 38 dX4_init_36 rfl (by decide) ?_
      refine G.icmp_ge X 60 41 dX4_init_38 (by decide) rfl (by omega) (by omega) (fun hc38 => ?_) (fun hc38 => ?_)
      · refine G.iconst X 61 dX4_init_60 rfl ?_
        refine G.istore_n (ls' := [_, _]) X 62 dX4_init_61 rfl (by decide) rfl ?_
        exact L62 12 0 _ _ _ (by omega) hP
      · exfalso; omega
    | succ k ih =>
      intro i kd1 rf1 M1 hik hP
      obtain ⟨hO, k0, r0, r9, r10, k1, k2, hg, hc, hm⟩ := id hP
      refine G.iload_n X 36 dX4_init_35 rfl rfl ?_
      refine G.bipush X 38 dX4_init_36 rfl (by decide) ?_
      refine G.icmp_ge X 60 41 dX4_init_38 (by decide) rfl (by omega) (by omega) (fun hc38 => ?_) (fun hc38 => ?_)
      · exfalso; omega
      · refine G.aload_n X 42 dX4_init_41 rfl rfl ?_
        refine G.getR X fl_X4_20 45 dX4_init_42 rfl k0 r9 ?_
        refine G.iload_n X 46 dX4_init_45 rfl rfl ?_
        refine G.newo (ci := 1) (C := RX1) (T := TX1) (N := 9) X gz rfl cl_X4_18 inst1 ini_X1 tyX1_ok hgz1 49 dX4_init_46 rfl ⟨by show 2 + i + 1 ≤ 24; omega, by show 22 + 9 * i + 9 ≤ 220; omega⟩ ?_
        refine G.dup X 50 dX4_init_49 rfl rfl ?_
        refine G.iV0 (d := 1) X ml_X4_30 yi_X1_init 53 dX4_init_50 rfl (c_X1_init l D Bs _ _ _ _ (b + 3 + i) ⟨kn_same, fun k => rn_same⟩) (by decide) ⟨by show 2 + i + 1 ≤ 24; omega, by show 22 + 9 * i + 9 ≤ 220; omega⟩ (Nat.le_of_ble_eq_true rfl) (fun M50 h50 => ?_)
        subst h50
        refine G.astq X (t := 2) (i := i) (n := 10) 54 dX4_init_53 rfl ((kn_ne (by omega)).trans k1) (by decide) rfl kn_same rfl rfl (by omega) (by decide) ?_
        refine G.iinc (ls' := [_, _]) X 57 dX4_init_54 rfl rfl (by decide) rfl ?_
        refine G.goto X 35 dX4_init_57 (by decide) ?_
        refine G.at (cells' := 2 + (i + 1)) (slots' := 22 + 9 * (i + 1)) (sz' := b + 3 + (i + 1)) (by omega) (by omega) (by omega) ?_
        exact ih (i + 1) _ _ _ (by omega) hP.g
  refine G.aload_n X 1 dX4_init_0 rfl rfl ?_
  refine G.objInit X ml_X4_3 4 dX4_init_1 rfl ⟨Nat.le_of_ble_eq_true rfl, Nat.le_of_ble_eq_true rfl⟩ ?_
  refine G.aload_n X 5 dX4_init_4 rfl rfl ?_
  refine G.iconst X 6 dX4_init_5 rfl ?_
  refine G.putI X fl_X4_9 fi_4_1 rfl 9 dX4_init_6 rfl hk (hr 1) ?_
  refine G.aload_n X 10 dX4_init_9 rfl rfl ?_
  refine G.bipush X 12 dX4_init_10 rfl (by decide) ?_
  refine G.putI X fl_X4_15 fi_4_2 rfl 15 dX4_init_12 rfl hk (hr 2) ?_
  refine G.aload_n X 16 dX4_init_15 rfl rfl ?_
  refine G.bipush X 18 dX4_init_16 rfl (by decide) ?_
  refine G.newq X (t := 2) (n := 10) rfl (by decide) hao.1 cl_X4_18 21 dX4_init_18 rfl rfl (by decide) ⟨Nat.le_of_ble_eq_true rfl, Nat.le_of_ble_eq_true rfl⟩ ?_
  refine G.putq (ci := 4) (C := RX4) (T := TX4) (N := 11) X (k := 9) (hin rfl) rfl (by decide) rfl rfl fk_X4_20 rfl (tyX4_ok 9 (by decide)) ⟨rfl, rfl⟩ 24 dX4_init_21 rfl ((kn_ne (by omega)).trans hk) ?_
  refine G.aload_n X 25 dX4_init_24 rfl rfl ?_
  refine G.bipush X 27 dX4_init_25 rfl (by decide) ?_
  refine G.newq X (t := 3) (n := 12) rfl (by decide) hao.2.1 cl_X4_24 30 dX4_init_27 rfl rfl (by decide) ⟨Nat.le_of_ble_eq_true rfl, Nat.le_of_ble_eq_true rfl⟩ ?_
  refine G.putq (ci := 4) (C := RX4) (T := TX4) (N := 11) X (k := 10) (hin rfl) rfl (by decide) rfl rfl fk_X4_26 rfl (tyX4_ok 10 (by decide)) ⟨rfl, rfl⟩ 33 dX4_init_30 rfl ((kn_ne (by omega)).trans ((kn_ne (by omega)).trans hk)) ?_
  refine G.iconst X 34 dX4_init_33 rfl ?_
  refine G.istore_n (ls' := [_, _]) X 35 dX4_init_34 rfl (by decide) rfl ?_
  refine G.at (cells' := 2 + 0) (slots' := 22 + 9 * 0) (sz' := b + 3 + 0) rfl rfl (by omega) ?_
  refine L35 10 0 _ _ _ (by omega) ⟨fun a ha => ⟨(kn_ne (by omega)).trans (kn_ne (by omega)), fun k => (ru_ne (Or.inl (by omega))).trans ((rn_ne (by omega)).trans ((ru_ne (Or.inl (by omega))).trans (rn_ne (by omega)))), ?_⟩, (kn_ne (by omega)).trans ((kn_ne (by omega)).trans hk), fun k h9 => ?_, ?_, ru_same, ?_, kn_same, fun i hi => absurd hi (Nat.not_lt_zero i), fun i hi => absurd hi (Nat.not_lt_zero i), ?_⟩
  · exact (ms_ne (by omega)).trans ((ms_ne (by omega)).trans ((ms_ne (by omega)).trans (ms_ne (by omega))))
  · rw [ru_ne (Or.inr (by omega)), rn_ne (by omega), ru_ne (Or.inr (by omega)), rn_ne (by omega), hr k]
    exact if_neg (by omega)
  · exact (ru_ne (Or.inr (by decide))).trans ((rn_ne (by omega)).trans ru_same)
  · exact (kn_ne (by omega)).trans kn_same
  · rw [ms_ne (by omega), ms_ne (by omega)]
    refine ⟨?_, ?_, mu_same, fun k h3 h9 => ?_⟩
    · rw [mu_ne (Or.inr (by decide)), mu_ne (Or.inr (by decide))]
      exact hM 0
    · rw [mu_ne (Or.inr (by decide))]
      exact mu_same
    · rw [mu_ne (Or.inr (by omega)), mu_ne (Or.inr (by omega))]
      exact hM k
