abbrev IR (x : Int) : Prop := -2147483648 ≤ x ∧ x ≤ 2147483647
def IsC (kd : xKd) (rf : xRf) (a : Nat) : Prop := kd a = some (.inl 0) ∧ ∀ k, rf a k = none
def IsG (kd : xKd) (rf : xRf) (a : Nat) : Prop := kd a = some (.inl 1) ∧ ∀ k, rf a k = none
def IsA (kd : xKd) (rf : xRf) (a n : Nat) : Prop := kd a = some (.inr (0, n)) ∧ ∀ k, rf a k = none
def IsCA (kd : xKd) (rf : xRf) (a n : Nat) : Prop := kd a = some (.inr (1, n)) ∧ ∀ k, rf a k = none
/-- a State of the class, its 25 cells from b on -/
def ShSt (kd : xKd) (rf : xRf) (b : Nat) : Prop := kd b = some (.inl 4) ∧ (∀ k, k < 9 → rf b k = none) ∧ rf b 9 = some (.ref (b + 1)) ∧ rf b 10 = some (.ref (b + 2)) ∧ kd (b + 1) = some (.inr (2, 10)) ∧ kd (b + 2) = some (.inr (3, 12)) ∧ (∀ i, i < 10 → rf (b + 1) i = some (.ref (b + 3 + i)) ∧ IsG kd rf (b + 3 + i)) ∧ ∀ i, i < 12 → rf (b + 2) i = some (.ref (b + 13 + i)) ∧ IsC kd rf (b + 13 + i)
theorem ShSt.kg {kd : xKd} {rf : xRf} {b : Nat} (h : ShSt kd rf b) : kd (b + 1) = some (.inr (2, 10)) := h.2.2.2.2.1
theorem ShSt.kc {kd : xKd} {rf : xRf} {b : Nat} (h : ShSt kd rf b) : kd (b + 2) = some (.inr (3, 12)) := h.2.2.2.2.2.1
theorem ShSt.rg {kd : xKd} {rf : xRf} {b i : Nat} (h : ShSt kd rf b) (hi : i < 10) : rf (b + 1) i = some (.ref (b + 3 + i)) := (h.2.2.2.2.2.2.1 i hi).1
theorem ShSt.g {kd : xKd} {rf : xRf} {b i : Nat} (h : ShSt kd rf b) (hi : i < 10) : IsG kd rf (b + 3 + i) := (h.2.2.2.2.2.2.1 i hi).2
theorem ShSt.rc {kd : xKd} {rf : xRf} {b i : Nat} (h : ShSt kd rf b) (hi : i < 12) : rf (b + 2) i = some (.ref (b + 13 + i)) := (h.2.2.2.2.2.2.2 i hi).1
theorem ShSt.c {kd : xKd} {rf : xRf} {b i : Nat} (h : ShSt kd rf b) (hi : i < 12) : IsC kd rf (b + 13 + i) := (h.2.2.2.2.2.2.2 i hi).2
/-- the history: its rows are five States -/
def ShH (kd : xKd) (rf : xRf) (a : Nat) : Prop := kd a = some (.inl 2) ∧ rf a 0 = some (.ref (a + 1)) ∧ (∀ k, 0 < k ∧ k < 3 → rf a k = none) ∧ kd (a + 1) = some (.inr (4, 5)) ∧ ∀ i, i < 5 → rf (a + 1) i = some (.ref (a + 2 + 25 * i)) ∧ ShSt kd rf (a + 2 + 25 * i)
theorem ShH.k {kd : xKd} {rf : xRf} {a : Nat} (h : ShH kd rf a) : kd (a + 1) = some (.inr (4, 5)) := h.2.2.2.1
theorem ShH.r {kd : xKd} {rf : xRf} {a i : Nat} (h : ShH kd rf a) (hi : i < 5) : rf (a + 1) i = some (.ref (a + 2 + 25 * i)) := (h.2.2.2.2 i hi).1
theorem ShH.s {kd : xKd} {rf : xRf} {a i : Nat} (h : ShH kd rf a) (hi : i < 5) : ShSt kd rf (a + 2 + 25 * i) := (h.2.2.2.2 i hi).2
/-- the text: signs at a + 1, lines at a + 2, the sites read from a + 3 on -/
def ShT (kd : xKd) (rf : xRf) (a : Nat) : Prop := kd a = some (.inl 3) ∧ rf a 0 = some (.ref (a + 1)) ∧ rf a 2 = some (.ref (a + 2)) ∧ (∀ k, k ≠ 0 ∧ k ≠ 2 → rf a k = none) ∧ IsCA kd rf (a + 1) 60 ∧ kd (a + 2) = some (.inr (3, 8)) ∧ ∀ i, i < 8 → rf (a + 2) i = some (.ref (a + 3 + i)) ∧ IsC kd rf (a + 3 + i)
theorem ShT.signs {kd : xKd} {rf : xRf} {a : Nat} (h : ShT kd rf a) : IsCA kd rf (a + 1) 60 := h.2.2.2.2.1
theorem ShT.kl {kd : xKd} {rf : xRf} {a : Nat} (h : ShT kd rf a) : kd (a + 2) = some (.inr (3, 8)) := h.2.2.2.2.2.1
theorem ShT.rl {kd : xKd} {rf : xRf} {a i : Nat} (h : ShT kd rf a) (hi : i < 8) : rf (a + 2) i = some (.ref (a + 3 + i)) := (h.2.2.2.2.2.2 i hi).1
theorem ShT.l {kd : xKd} {rf : xRf} {a i : Nat} (h : ShT kd rf a) (hi : i < 8) : IsC kd rf (a + 3 + i) := (h.2.2.2.2.2.2 i hi).2
/-- the class's object, its 215 cells from a on -/
def ShX (kd : xKd) (rf : xRf) (a : Nat) : Prop := kd a = some (.inl 5) ∧ rf a 3 = none ∧ (rf a 0 = some (.ref (a + 1)) ∧ ShSt kd rf (a + 1)) ∧ (rf a 1 = some (.ref (a + 26)) ∧ ShSt kd rf (a + 26)) ∧ (rf a 2 = some (.ref (a + 51)) ∧ ShSt kd rf (a + 51)) ∧ (rf a 4 = some (.ref (a + 76)) ∧ ShH kd rf (a + 76)) ∧ (rf a 5 = some (.ref (a + 203)) ∧ ShT kd rf (a + 203)) ∧ rf a 6 = some (.ref (a + 214)) ∧ IsA kd rf (a + 214) 12
theorem ShX.r0 {kd : xKd} {rf : xRf} {a : Nat} (h : ShX kd rf a) : rf a 0 = some (.ref (a + 1)) := (h.2.2.1).1
theorem ShX.now {kd : xKd} {rf : xRf} {a : Nat} (h : ShX kd rf a) : ShSt kd rf (a + 1) := (h.2.2.1).2
theorem ShX.r1 {kd : xKd} {rf : xRf} {a : Nat} (h : ShX kd rf a) : rf a 1 = some (.ref (a + 26)) := (h.2.2.2.1).1
theorem ShX.ahead {kd : xKd} {rf : xRf} {a : Nat} (h : ShX kd rf a) : ShSt kd rf (a + 26) := (h.2.2.2.1).2
theorem ShX.r2 {kd : xKd} {rf : xRf} {a : Nat} (h : ShX kd rf a) : rf a 2 = some (.ref (a + 51)) := (h.2.2.2.2.1).1
theorem ShX.snap {kd : xKd} {rf : xRf} {a : Nat} (h : ShX kd rf a) : ShSt kd rf (a + 51) := (h.2.2.2.2.1).2
theorem ShX.r4 {kd : xKd} {rf : xRf} {a : Nat} (h : ShX kd rf a) : rf a 4 = some (.ref (a + 76)) := (h.2.2.2.2.2.1).1
theorem ShX.hist {kd : xKd} {rf : xRf} {a : Nat} (h : ShX kd rf a) : ShH kd rf (a + 76) := (h.2.2.2.2.2.1).2
theorem ShX.r5 {kd : xKd} {rf : xRf} {a : Nat} (h : ShX kd rf a) : rf a 5 = some (.ref (a + 203)) := (h.2.2.2.2.2.2.1).1
theorem ShX.text {kd : xKd} {rf : xRf} {a : Nat} (h : ShX kd rf a) : ShT kd rf (a + 203) := (h.2.2.2.2.2.2.1).2
theorem ShX.r6 {kd : xKd} {rf : xRf} {a : Nat} (h : ShX kd rf a) : rf a 6 = some (.ref (a + 214)) := h.2.2.2.2.2.2.2.1
theorem ShX.order {kd : xKd} {rf : xRf} {a : Nat} (h : ShX kd rf a) : IsA kd rf (a + 214) 12 := h.2.2.2.2.2.2.2.2
theorem fi_0_0 : FI 0 0 .int false := FI.of (C := RX0) (T := TX0) (N := 9) rfl (by decide +kernel)
theorem fi_0_1 : FI 0 1 .int false := FI.of (C := RX0) (T := TX0) (N := 9) rfl (by decide +kernel)
theorem fi_0_2 : FI 0 2 .int false := FI.of (C := RX0) (T := TX0) (N := 9) rfl (by decide +kernel)
theorem fi_0_3 : FI 0 3 .int false := FI.of (C := RX0) (T := TX0) (N := 9) rfl (by decide +kernel)
theorem fi_0_4 : FI 0 4 .int false := FI.of (C := RX0) (T := TX0) (N := 9) rfl (by decide +kernel)
theorem fi_0_5 : FI 0 5 .int false := FI.of (C := RX0) (T := TX0) (N := 9) rfl (by decide +kernel)
theorem fi_0_6 : FI 0 6 .int false := FI.of (C := RX0) (T := TX0) (N := 9) rfl (by decide +kernel)
theorem fi_0_7 : FI 0 7 .int false := FI.of (C := RX0) (T := TX0) (N := 9) rfl (by decide +kernel)
theorem fi_0_8 : FI 0 8 .int false := FI.of (C := RX0) (T := TX0) (N := 9) rfl (by decide +kernel)
theorem fi_1_0 : FI 1 0 .int false := FI.of (C := RX1) (T := TX1) (N := 9) rfl (by decide +kernel)
theorem fi_1_1 : FI 1 1 .int false := FI.of (C := RX1) (T := TX1) (N := 9) rfl (by decide +kernel)
theorem fi_1_2 : FI 1 2 .int false := FI.of (C := RX1) (T := TX1) (N := 9) rfl (by decide +kernel)
theorem fi_1_3 : FI 1 3 .int false := FI.of (C := RX1) (T := TX1) (N := 9) rfl (by decide +kernel)
theorem fi_1_4 : FI 1 4 .int false := FI.of (C := RX1) (T := TX1) (N := 9) rfl (by decide +kernel)
theorem fi_1_5 : FI 1 5 .int false := FI.of (C := RX1) (T := TX1) (N := 9) rfl (by decide +kernel)
theorem fi_1_6 : FI 1 6 .boolean false := FI.of (C := RX1) (T := TX1) (N := 9) rfl (by decide +kernel)
theorem fi_1_7 : FI 1 7 .int false := FI.of (C := RX1) (T := TX1) (N := 9) rfl (by decide +kernel)
theorem fi_1_8 : FI 1 8 .int false := FI.of (C := RX1) (T := TX1) (N := 9) rfl (by decide +kernel)
theorem fi_2_1 : FI 2 1 .int false := FI.of (C := RX2) (T := TX2) (N := 3) rfl (by decide +kernel)
theorem fi_2_2 : FI 2 2 .int false := FI.of (C := RX2) (T := TX2) (N := 3) rfl (by decide +kernel)
theorem fi_3_1 : FI 3 1 .int false := FI.of (C := RX3) (T := TX3) (N := 5) rfl (by decide +kernel)
theorem fi_3_3 : FI 3 3 .int false := FI.of (C := RX3) (T := TX3) (N := 5) rfl (by decide +kernel)
theorem fi_3_4 : FI 3 4 .int false := FI.of (C := RX3) (T := TX3) (N := 5) rfl (by decide +kernel)
theorem fi_4_0 : FI 4 0 .int false := FI.of (C := RX4) (T := TX4) (N := 11) rfl (by decide +kernel)
theorem fi_4_1 : FI 4 1 .int false := FI.of (C := RX4) (T := TX4) (N := 11) rfl (by decide +kernel)
theorem fi_4_2 : FI 4 2 .int false := FI.of (C := RX4) (T := TX4) (N := 11) rfl (by decide +kernel)
theorem fi_4_3 : FI 4 3 .int false := FI.of (C := RX4) (T := TX4) (N := 11) rfl (by decide +kernel)
theorem fi_4_4 : FI 4 4 .int false := FI.of (C := RX4) (T := TX4) (N := 11) rfl (by decide +kernel)
theorem fi_4_5 : FI 4 5 .int false := FI.of (C := RX4) (T := TX4) (N := 11) rfl (by decide +kernel)
theorem fi_4_6 : FI 4 6 .int false := FI.of (C := RX4) (T := TX4) (N := 11) rfl (by decide +kernel)
theorem fi_4_7 : FI 4 7 .int false := FI.of (C := RX4) (T := TX4) (N := 11) rfl (by decide +kernel)
theorem fi_4_8 : FI 4 8 .int false := FI.of (C := RX4) (T := TX4) (N := 11) rfl (by decide +kernel)
theorem fi_5_3 : FI 5 3 .boolean false := FI.of (C := RX5) (T := TX5) (N := 7) rfl (by decide +kernel)
section GX
variable {p : Program} {l : Launch} {e : Env} {R : Room} {s : State} {m : MethodId} {args : Array Value} {below : List Frame} {meth : Method} {c : Code} {D : xD} {Bs nL cells slots : Nat} {Q : State → Prop} {sz : Nat} {kd : xKd} {rf : xRf} {M : xM} {cc : ByteArray} {own : String} {ret : Option FieldType} {pc : Nat} {ls : List (Option Value)} {st : List Value}
theorem G.okd (k : xOk kd M → G p l e R s m args below meth c D Bs nL cells slots Q sz kd rf M pc ls st) : G p l e R s m args below meth c D Bs nL cells slots Q sz kd rf M pc ls st := fun H locs la hW hS hL => k hW.2.2.2 H locs la hW hS hL
theorem G.idivI (X : Cx p s m meth c args cc nL own ret D) {x y : Int} (pc' : Nat) (hd : decode cc pc = .ok (.idiv, 1)) (hp : pc + 1 = pc') (hx : 0 ≤ x ∧ x ≤ 2147483647) (hy : 0 < y ∧ y ≤ 2147483647)
    (kk : G p l e R s m args below meth c D Bs nL cells slots Q sz kd rf M pc' ls (vi (x / y) :: st)) : G p l e R s m args below meth c D Bs nL cells slots Q sz kd rf M pc ls (vi y :: vi x :: st) := by
  obtain ⟨a, rfl⟩ : ∃ a : Nat, x = (a : Int) := ⟨x.toNat, by omega⟩
  obtain ⟨b, rfl⟩ : ∃ b : Nat, y = (b : Int) := ⟨y.toNat, by omega⟩
  refine G.idiv X pc' hd hp (by omega) (by omega) (by omega) ?_
  rw [Int.natCast_ediv]
  exact kk
theorem G.iremI (X : Cx p s m meth c args cc nL own ret D) {x y : Int} (pc' : Nat) (hd : decode cc pc = .ok (.irem, 1)) (hp : pc + 1 = pc') (hx : 0 ≤ x ∧ x ≤ 2147483647) (hy : 0 < y ∧ y ≤ 2147483647)
    (kk : G p l e R s m args below meth c D Bs nL cells slots Q sz kd rf M pc' ls (vi (x % y) :: st)) : G p l e R s m args below meth c D Bs nL cells slots Q sz kd rf M pc ls (vi y :: vi x :: st) := by
  obtain ⟨a, rfl⟩ : ∃ a : Nat, x = (a : Int) := ⟨x.toNat, by omega⟩
  obtain ⟨b, rfl⟩ : ∃ b : Nat, y = (b : Int) := ⟨y.toNat, by omega⟩
  refine G.irem X pc' hd hp (by omega) (by omega) (by omega) ?_
  rw [Int.natCast_emod]
  exact kk
theorem G.eqv {ls' : List (Option Value)} {st' : List Value} (h1 : ls = ls') (h2 : st = st') (kk : G p l e R s m args below meth c D Bs nL cells slots Q sz kd rf M pc ls' st') : G p l e R s m args below meth c D Bs nL cells slots Q sz kd rf M pc ls st := by
  subst h1
  subst h2
  exact kk
theorem G.drop (k : Nat) (kk : G p l e R s m args below meth c D Bs nL cells slots Q sz kd rf M pc (ls.set k none) st) : G p l e R s m args below meth c D Bs nL cells slots Q sz kd rf M pc ls st := by
  intro H locs la hW hS hL
  have hsub : ∀ (i : Nat) (v : Value), (ls.set k none)[i]? = some (some v) → ls[i]? = some (some v) := by
    intro i v h
    by_cases hi : i = k
    · subst hi
      rw [List.getElem?_set] at h
      simp at h
    · rw [List.getElem?_set_ne (Ne.symm hi)] at h
      exact h
  refine kk H locs la hW hS ⟨⟨hL.1.1, hL.1.2.1, fun q hq => ?_⟩, trivial⟩
  · obtain ⟨j, h1, h2⟩ := lvl_of hq
    have h3 := hL.get (hsub j _ h2)
    rw [show q.1 = j by omega]
    exact h3
theorem G.eqm {M' : xM} (h : M = M') (kk : G p l e R s m args below meth c D Bs nL cells slots Q sz kd rf M' pc ls st) : G p l e R s m args below meth c D Bs nL cells slots Q sz kd rf M pc ls st := by
  subst h
  exact kk
end GX
