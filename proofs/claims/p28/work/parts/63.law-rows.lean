section GL
variable {p : Program} {l : Launch} {e : Env} {R : Room} {s : State} {m : MethodId} {args : Array Value} {below : List Frame} {meth : Method} {c : Code} {D : xD} {Bs nL cells slots : Nat} {Q : State → Prop} {sz : Nat} {kd : xKd} {rf : xRf} {M : xM} {cc : ByteArray} {own : String} {ret : Option FieldType} {pc : Nat} {ls : List (Option Value)} {st : List Value}
theorem ir_x (x : Int32) : IR x.toInt := by
  have h1 := Int32.le_toInt x
  have h2 := Int32.toInt_lt x
  exact ⟨by omega, by omega⟩
theorem vi_x (x : Int32) : Value.int x = vi x.toInt := congrArg Value.int (Int32.ofInt_toInt _).symm
theorem G.neF (X : Cx p s m meth c args cc nL own ret D) {a b off : Int} (pc' : Nat) (hd : decode cc pc = .ok (.if_icmp .ne off, 3)) (tgt : Nat) (ht : (pc : Int) + off = (tgt : Int)) (hp : pc + 3 = pc') (hab : a = b) (kk : G p l e R s m args below meth c D Bs nL cells slots Q sz kd rf M pc' ls st) : G p l e R s m args below meth c D Bs nL cells slots Q sz kd rf M pc ls (vi b :: vi a :: st) := fun H locs la hW hS hL => by
  subst hp
  subst hab
  exact lv_icmp_ne X.1 X.2.1 hd ht (fun h => absurd rfl h) (fun _ => kk H locs la hW hS hL)
theorem G.eqT (X : Cx p s m meth c args cc nL own ret D) {a b off : Int} (tgt : Nat) (hd : decode cc pc = .ok (.if_icmp .eq off, 3)) (ht : (pc : Int) + off = (tgt : Int)) (hab : a = b) (kt : G p l e R s m args below meth c D Bs nL cells slots Q sz kd rf M tgt ls st) : G p l e R s m args below meth c D Bs nL cells slots Q sz kd rf M pc ls (vi b :: vi a :: st) := fun H locs la hW hS hL => by
  subst hab
  exact lv_icmp_eq X.1 X.2.1 hd ht (fun _ => kt H locs la hW hS hL) (fun h => absurd rfl h)
theorem G.mask31 (X : Cx p s m meth c args cc nL own ret D) {a : Int} (pc' : Nat) (hd : decode cc pc = .ok (.iand, 1)) (hp : pc + 1 = pc') (kk : ∀ y : Int, 0 ≤ y ∧ y ≤ 2147483647 → G p l e R s m args below meth c D Bs nL cells slots Q sz kd rf M pc' ls (vi y :: st)) : G p l e R s m args below meth c D Bs nL cells slots Q sz kd rf M pc ls (vi 2147483647 :: vi a :: st) := by
  intro H locs la hW hS hL
  subst hp
  refine lv_iand X.1 X.2.1 hd ?_
  rw [vi_x]
  have h1 := Jvm.Kit.i32_mask (Int32.ofInt a) (Int32.ofInt 2147483647) (k := 31) (by decide) (by decide)
  have h2 : ((2 : Int) ^ 31) = 2147483648 := by decide
  rw [h2] at h1
  exact kk _ (by omega) H locs la hW hS hL
theorem G.iandX (X : Cx p s m meth c args cc nL own ret D) {a b : Int} (pc' : Nat) (hd : decode cc pc = .ok (.iand, 1)) (hp : pc + 1 = pc') (kk : ∀ y : Int, IR y → G p l e R s m args below meth c D Bs nL cells slots Q sz kd rf M pc' ls (vi y :: st)) : G p l e R s m args below meth c D Bs nL cells slots Q sz kd rf M pc ls (vi b :: vi a :: st) := by
  intro H locs la hW hS hL
  subst hp
  refine lv_iand X.1 X.2.1 hd ?_
  rw [vi_x]
  exact kk _ (ir_x _) H locs la hW hS hL
theorem G.ishrX (X : Cx p s m meth c args cc nL own ret D) {a b : Int} (pc' : Nat) (hd : decode cc pc = .ok (.ishr, 1)) (hp : pc + 1 = pc') (kk : ∀ y : Int, IR y → G p l e R s m args below meth c D Bs nL cells slots Q sz kd rf M pc' ls (vi y :: st)) : G p l e R s m args below meth c D Bs nL cells slots Q sz kd rf M pc ls (vi b :: vi a :: st) := by
  intro H locs la hW hS hL
  subst hp
  refine lv_ishr X.1 X.2.1 hd ?_
  rw [vi_x]
  exact kk _ (ir_x _) H locs la hW hS hL
/-! longs -/
theorem Lh.setJ {la la' : Array Slot} {nL i : Nat} {ls : List (Option Value)} {x : Int64} (h : Lh la nL ls) (hz : noL ls i = true) (hi : ls[i + 1]? = some none) (h' : lv_has la' nL ((i, .long x) :: (lvl 0 ls).filter (fun q => !(q.1 == i) && (!(q.1 == i + 1) && !(q.1 + 1 == i && q.2.category == 2))))) : Lh la' nL (ls.set i (some (.long x))) := by
  refine ⟨⟨h'.1, h'.2.1, fun q hq => ?_⟩, trivial⟩
  obtain ⟨j, h1, h2⟩ := lvl_of hq
  have e : q.1 = j := by omega
  by_cases hj : j = i
  · subst hj
    rw [List.getElem?_set] at h2
    simp at h2
    have h3 := h'.2.2 (j, .long x) List.mem_cons_self
    rw [e, ← h2.2]
    exact h3
  · rw [List.getElem?_set_ne (Ne.symm hj)] at h2
    have h3 := lvl_in (k := 0) h2
    have hj2 : j ≠ i + 1 := fun g => by
      subst g
      rw [hi] at h2
      cases h2
    have h4 : ¬ (j + 1 = i ∧ q.2.category = 2) := by
      rintro ⟨g1, g2⟩
      subst g1
      unfold noL at hz
      simp only [h2] at hz
      rw [g2] at hz
      cases hz
    have h5 := h'.2.2 (0 + j, q.2) (List.mem_cons_of_mem _ (List.mem_filter.mpr ⟨h3, by
      simp [hj, hj2]
      by_cases g : j + 1 = i
      · exact Or.inr (fun g2 => h4 ⟨g, g2⟩)
      · exact Or.inl g⟩))
    rw [e]
    simpa using h5
theorem G.ldc2 (X : Cx p s m meth c args cc nL own ret D) {i : Nat} {v : Int64} (ko : Cond.constantLong own i v ∈ gw) (pc' : Nat) (hd : decode cc pc = .ok (.ldc2_w i, 3)) (hp : pc + 3 = pc') (kk : G p l e R s m args below meth c D Bs nL cells slots Q sz kd rf M pc' ls (.long v :: st)) : G p l e R s m args below meth c D Bs nL cells slots Q sz kd rf M pc ls st := by
  intro H locs la hW hS hL
  subst hp
  exact lv_ldc2 X.1 X.2.1 X.2.2.2.1 (X.2.2.2.2.1 _ ko) hd (kk H locs la hW hS hL)
theorem G.lload_n (X : Cx p s m meth c args cc nL own ret D) {k : Fin 4} {x : Int64} (pc' : Nat) (hd : decode cc pc = .ok (.lload_n k, 1)) (hp : pc + 1 = pc') (h : ls[(k : Nat)]? = some (some (.long x))) (kk : G p l e R s m args below meth c D Bs nL cells slots Q sz kd rf M pc' ls (.long x :: st)) : G p l e R s m args below meth c D Bs nL cells slots Q sz kd rf M pc ls st := by
  intro H locs la hW hS hL
  subst hp
  exact lv_lload_n X.1 X.2.1 hd rfl (hL.get h) (kk H locs la hW hS hL)
theorem G.lload (X : Cx p s m meth c args cc nL own ret D) {i : Nat} {x : Int64} (pc' : Nat) (hd : decode cc pc = .ok (.lload i, 2)) (hp : pc + 2 = pc') (h : ls[i]? = some (some (.long x))) (kk : G p l e R s m args below meth c D Bs nL cells slots Q sz kd rf M pc' ls (.long x :: st)) : G p l e R s m args below meth c D Bs nL cells slots Q sz kd rf M pc ls st := by
  intro H locs la hW hS hL
  subst hp
  exact lv_lload X.1 X.2.1 hd (hL.get h) (kk H locs la hW hS hL)
theorem G.lstore_n (X : Cx p s m meth c args cc nL own ret D) {k : Fin 4} {x : Int64} {ls' : List (Option Value)} (pc' : Nat) (hd : decode cc pc = .ok (.lstore_n k, 1)) (hp : pc + 1 = pc') (hn : (k : Nat) + 1 < nL) (hl : ls.set (k : Nat) (some (.long x)) = ls') (hi : ls[(k : Nat) + 1]? = some none) (kk : G p l e R s m args below meth c D Bs nL cells slots Q sz kd rf M pc' ls' st) (hz : noL ls (k : Nat) = true := by rfl) : G p l e R s m args below meth c D Bs nL cells slots Q sz kd rf M pc ls (.long x :: st) := by
  intro H locs la hW hS hL
  subst hp
  subst hl
  exact lv_lstore_n X.1 X.2.1 hd rfl hL.1 hn rfl (fun la' hl' => kk H locs la' hW hS (hL.setJ hz hi hl'))
theorem G.lstore (X : Cx p s m meth c args cc nL own ret D) {i : Nat} {x : Int64} {ls' : List (Option Value)} (pc' : Nat) (hd : decode cc pc = .ok (.lstore i, 2)) (hp : pc + 2 = pc') (hn : i + 1 < nL) (hl : ls.set i (some (.long x)) = ls') (hi : ls[i + 1]? = some none) (kk : G p l e R s m args below meth c D Bs nL cells slots Q sz kd rf M pc' ls' st) (hz : noL ls i = true := by rfl) : G p l e R s m args below meth c D Bs nL cells slots Q sz kd rf M pc ls (.long x :: st) := by
  intro H locs la hW hS hL
  subst hp
  subst hl
  exact lv_lstore X.1 X.2.1 hd hL.1 hn rfl (fun la' hl' => kk H locs la' hW hS (hL.setJ hz hi hl'))
theorem G.ladd (X : Cx p s m meth c args cc nL own ret D) {x y : Int64} (pc' : Nat) (hd : decode cc pc = .ok (.ladd, 1)) (hp : pc + 1 = pc') (kk : G p l e R s m args below meth c D Bs nL cells slots Q sz kd rf M pc' ls (.long (x + y) :: st)) : G p l e R s m args below meth c D Bs nL cells slots Q sz kd rf M pc ls (.long y :: .long x :: st) := by
  intro H locs la hW hS hL
  subst hp
  exact lv_ladd X.1 X.2.1 hd (kk H locs la hW hS hL)
theorem G.lmul (X : Cx p s m meth c args cc nL own ret D) {x y : Int64} (pc' : Nat) (hd : decode cc pc = .ok (.lmul, 1)) (hp : pc + 1 = pc') (kk : G p l e R s m args below meth c D Bs nL cells slots Q sz kd rf M pc' ls (.long (x * y) :: st)) : G p l e R s m args below meth c D Bs nL cells slots Q sz kd rf M pc ls (.long y :: .long x :: st) := by
  intro H locs la hW hS hL
  subst hp
  exact lv_lmul X.1 X.2.1 hd (kk H locs la hW hS hL)
theorem G.i2l (X : Cx p s m meth c args cc nL own ret D) {a : Int} (pc' : Nat) (hd : decode cc pc = .ok (.i2l, 1)) (hp : pc + 1 = pc') (kk : G p l e R s m args below meth c D Bs nL cells slots Q sz kd rf M pc' ls (.long (Int32.ofInt a).toInt64 :: st)) : G p l e R s m args below meth c D Bs nL cells slots Q sz kd rf M pc ls (vi a :: st) := by
  intro H locs la hW hS hL
  subst hp
  exact lv_i2l X.1 X.2.1 hd rfl (kk H locs la hW hS hL)
theorem G.lcmp (X : Cx p s m meth c args cc nL own ret D) {x y : Int64} (pc' : Nat) (hd : decode cc pc = .ok (.lcmp, 1)) (hp : pc + 1 = pc') (kk : ∀ z : Int, IR z → (x = y → z = 0) → G p l e R s m args below meth c D Bs nL cells slots Q sz kd rf M pc' ls (vi z :: st)) : G p l e R s m args below meth c D Bs nL cells slots Q sz kd rf M pc ls (.long y :: .long x :: st) := by
  intro H locs la hW hS hL
  subst hp
  refine W.lcmp X.1 X.2.1 hd ?_
  rw [vi_x]
  refine kk _ (ir_x _) (fun h => ?_) H locs la hW hS hL
  subst h
  unfold lg_cmp
  rw [if_neg (Int64.lt_irrefl), if_pos rfl]
  rfl
abbrev pJ (sz : Nat) (kd : xKd) (rf : xRf) (P : Int64 → xM → Prop) : xPost := fun v sz' kd' rf' M' => sz' = sz ∧ kd' = kd ∧ rf' = rf ∧ ∃ x : Int64, v = some (.long x) ∧ P x M'
abbrev CtJ (l : Launch) (D : xD) (Bs : Nat) (y : MethodName) (b : ByteArray) (n : Nat) (ret : Option FieldType) (d : Nat) (as : List Value) (sz : Nat) (kd : xKd) (rf : xRf) (M : xM) (P : Int64 → xM → Prop) : Prop := Ctr l D Bs y b n ret (rmd d) as sz kd rf M 0 0 (pJ sz kd rf P)
theorem G.jret (X : Cx p s m meth c args cc nL own (some .long) D) {post : xPost} {mc ms : Nat} {x : Int64} (hd : decode cc pc = .ok (.lreturn, 1)) (hc : cells ≤ mc ∧ slots ≤ ms) (h : post (some (.long x)) sz kd rf M) : G p l e R s m args below meth c D Bs nL cells slots (MQ below (xQ D Bs post) args s mc ms (fun q => Bs ≤ q)) sz kd rf M pc ls [.long x] := by
  intro H locs la hW hS hL
  refine W.widen hc.1 hc.2 ?_
  obtain ⟨hx, hb, hml, hown, hts, hK, hr, hlocks⟩ := X
  exact W.lret hx hb hr (fun t ht hWm => ⟨⟨_, sz, kd, rf, M, rfl, h, by rw [ht]; exact hW⟩, hS.F ht⟩) hS.2.2 hd
/-! static calls of one, two and four arguments -/
theorem G.sJ1 (X : Cx p s m meth c args cc nL own ret D) {idx nn d : Nat} {y : MethodName} {b2 : ByteArray} {ret2 : Option FieldType} {rest : List Value} {x1 : Value} {P : Int64 → xM → Prop} (ml : ML own idx y) (yv : YS y b2 nn ret2 1) (pc' : Nat) (hd : decode cc pc = .ok (.invokestatic idx, 3)) (hp : pc + 3 = pc') (ct : CtJ l D Bs y b2 nn ret2 d [x1] sz kd rf M P) (hR : d + 1 ≤ R.frames ∧ 8 + (nn + 11) + 40 * d ≤ R.locals) (hf : cells ≤ R.cells ∧ slots ≤ R.slots) (hw : (rest.map fun v => v.category).sum ≤ 8)
    (kk : ∀ (r : Int64) (M' : xM), P r M' → G p l e R s m args below meth c D Bs nL cells slots Q sz kd rf M' pc' ls (.long r :: rest)) : G p l e R s m args below meth c D Bs nL cells slots Q sz kd rf M pc ls (x1 :: rest) :=
  G.callS X (As := [x1]) (rest := rest) ml yv pc' hd hp ct rfl hR ⟨rfl, rfl⟩ hf hw (fun v sz' kd' rf' M' h => by obtain ⟨rfl, rfl, rfl, r, rfl, h⟩ := h; exact kk r M' h)
theorem G.sI1 (X : Cx p s m meth c args cc nL own ret D) {idx nn d : Nat} {y : MethodName} {b2 : ByteArray} {ret2 : Option FieldType} {rest : List Value} {x1 : Value} {P : Int → xM → Prop} (ml : ML own idx y) (yv : YS y b2 nn ret2 1) (pc' : Nat) (hd : decode cc pc = .ok (.invokestatic idx, 3)) (hp : pc + 3 = pc') (ct : CtI l D Bs y b2 nn ret2 d [x1] sz kd rf M P) (hR : d + 1 ≤ R.frames ∧ 8 + (nn + 11) + 40 * d ≤ R.locals) (hf : cells ≤ R.cells ∧ slots ≤ R.slots) (hw : (rest.map fun v => v.category).sum ≤ 8)
    (kk : ∀ (r : Int) (M' : xM), P r M' → G p l e R s m args below meth c D Bs nL cells slots Q sz kd rf M' pc' ls (vi r :: rest)) : G p l e R s m args below meth c D Bs nL cells slots Q sz kd rf M pc ls (x1 :: rest) :=
  G.callS X (As := [x1]) (rest := rest) ml yv pc' hd hp ct rfl hR ⟨rfl, rfl⟩ hf hw (fun v sz' kd' rf' M' h => by obtain ⟨rfl, rfl, rfl, r, rfl, h⟩ := h; exact kk r M' h)
theorem G.sI4 (X : Cx p s m meth c args cc nL own ret D) {idx nn d : Nat} {y : MethodName} {b2 : ByteArray} {ret2 : Option FieldType} {rest : List Value} {x1 x2 x3 x4 : Value} {P : Int → xM → Prop} (ml : ML own idx y) (yv : YS y b2 nn ret2 4) (pc' : Nat) (hd : decode cc pc = .ok (.invokestatic idx, 3)) (hp : pc + 3 = pc') (ct : CtI l D Bs y b2 nn ret2 d [x1, x2, x3, x4] sz kd rf M P) (hR : d + 1 ≤ R.frames ∧ 8 + (nn + 11) + 40 * d ≤ R.locals) (hf : cells ≤ R.cells ∧ slots ≤ R.slots) (hw : (rest.map fun v => v.category).sum ≤ 8)
    (kk : ∀ (r : Int) (M' : xM), P r M' → G p l e R s m args below meth c D Bs nL cells slots Q sz kd rf M' pc' ls (vi r :: rest)) : G p l e R s m args below meth c D Bs nL cells slots Q sz kd rf M pc ls (x4 :: x3 :: x2 :: x1 :: rest) :=
  G.callS X (As := [x1, x2, x3, x4]) (rest := rest) ml yv pc' hd hp ct rfl hR ⟨rfl, rfl⟩ hf hw (fun v sz' kd' rf' M' h => by obtain ⟨rfl, rfl, rfl, r, rfl, h⟩ := h; exact kk r M' h)
/-! the script: one more cell, outside the world -/
theorem G.sld (X : Cx p s m meth c args cc nL own ret D) {b L i : Nat} {xs : Nat → Int32} {j : Int} (hX : va_X b L xs s s.heap) (hbl : b < s.heap.size) (hbB : b < Bs) (pc' : Nat) (hd : decode cc pc = .ok (.iaload, 1)) (hp : pc + 1 = pc') (hj : j = (i : Int)) (hi : i < L) (hn : L ≤ 260) (kk : G p l e R s m args below meth c D Bs nL cells slots Q sz kd rf M pc' ls (vi (xs i).toInt :: st)) : G p l e R s m args below meth c D Bs nL cells slots Q sz kd rf M pc ls (vi j :: .ref b :: st) := by
  intro H locs la hW hS hL
  subst hp
  subst hj
  have kk := kk H locs la hW hS hL
  obtain ⟨hx, hb, hml, hown, hts, hK, -, -⟩ := X
  rw [← vi_x] at kk
  refine va_sld hx hb hX hbl (show ¬ Bs ≤ b by omega) hS (oI_in hi (by omega)) hd ?_
  rw [oI_cl (by omega)]
  exact kk
theorem G.slen (X : Cx p s m meth c args cc nL own ret D) {b L : Nat} {xs : Nat → Int32} (hX : va_X b L xs s s.heap) (hbl : b < s.heap.size) (hbB : b < Bs) (pc' : Nat) (hd : decode cc pc = .ok (.arraylength, 1)) (hp : pc + 1 = pc') (kk : G p l e R s m args below meth c D Bs nL cells slots Q sz kd rf M pc' ls (vi (L : Int) :: st)) : G p l e R s m args below meth c D Bs nL cells slots Q sz kd rf M pc ls (.ref b :: st) := by
  intro H locs la hW hS hL
  subst hp
  have kk := kk H locs la hW hS hL
  obtain ⟨hx, hb, hml, hown, hts, hK, -, -⟩ := X
  have e1 : vi (L : Int) = .int (Int32.ofNat L) := congrArg Value.int (oI_nat L)
  rw [e1] at kk
  exact va_slen hx hb hX hbl (show ¬ Bs ≤ b by omega) hS hd kk
/-- the start of a method that is given the script too -/
def xPs (D : xD) (Bs : Nat) (as : List Value) (sz : Nat) (kd : xKd) (rf : xRf) (M : xM) (b L : Nat) (xs : Nat → Int32) : Array Value → State → Prop := va_Pc as (fun U => Wd D Bs sz kd rf M U.heap ∧ xK D U ∧ va_X b L xs U U.heap)
theorem xPs_blind {as : List Value} {b L : Nat} {xs : Nat → Int32} : FrameBlind (xPs D Bs as sz kd rf M b L xs) := fun a U g mk h => ⟨h.1, h.2.1, xK.same (s := U) (U := U.calling g mk a) rfl h.2.2.1, va_X.moved (u := U) (U := U.calling g mk a) (Vm.Alike.refl _) h.2.2.2⟩
theorem G.callX {post : xPost} {a : Array Value} {rest st0 : List Value} {mc ms pc' : Nat} (hp : pc + 3 = pc')
    (hr : ∀ (H : Heap) (locs : List Loc) (la : Array Slot), Wd D Bs sz kd rf M H → va_S (fun q => Bs ≤ q) s.heap H locs → la.size = nL → va_Run p l e R s m args below meth c H locs cells slots mc ms (F0 m pc la st0) rest (xQ D Bs post a) (fun q => Bs ≤ q))
    (kk : ∀ (v : Option Value) (sz' : Nat) (kd' : xKd) (rf' : xRf) (M' : xM), post v sz' kd' rf' M' → G p l e R s m args below meth c D Bs nL (cells + mc) (slots + ms) Q sz' kd' rf' M' pc' ls (v.toList ++ rest)) : G p l e R s m args below meth c D Bs nL cells slots Q sz kd rf M pc ls st0 := by
  intro H locs la hW hS hL T hT X
  obtain ⟨v, st₀, t, T', L, h0, X', hL', e1, e2, ⟨⟨v2, sz', kd', rf', M', hv, hp2, hW'⟩, hz, hk⟩, st⟩ := hr H locs la hW hS hL.1.1 T hT X
  cases hv
  rw [h0] at hz hk
  subst hp
  obtain ⟨t2, a1, b1⟩ := kk v sz' kd' rf' M' hp2 T'.heap (locs ++ L) la (by rw [e1]; exact hW') ⟨Nat.le_trans hS.1 (by rw [e1]; exact hz), fun q h1 h2 => by rw [e1, hk q (Nat.lt_of_lt_of_le h1 hS.1) h2]; exact hS.2.1 q h1 h2, fun q hq => by
    rcases List.mem_append.mp hq with h | h
    · exact hS.2.2 q h
    · exact hL' q h⟩ hL T' rfl X'
  exact ⟨t2, st t2 a1, b1⟩
theorem G.callSX (X : Cx p s m meth c args cc nL own ret D) {idx np nn : Nat} {y : MethodName} {b2 : ByteArray} {ret2 : Option FieldType} {rm : Room} {As rest : List Value} {post : xPost} {mc ms b L : Nat} {xs : Nat → Int32} (hX : va_X b L xs s s.heap) (hbl : b < s.heap.size) (hbB : b < Bs) (ml : ML own idx y) (yv : YS y b2 nn ret2 np) (pc' : Nat) (hd : decode cc pc = .ok (.invokestatic idx, 3)) (hp : pc + 3 = pc') (ct : Met l y (Cond.code y b2 nn ret2 :: gw) rm (xPs D Bs As sz kd rf M b L xs) (xQ D Bs post) mc ms (fun q => Bs ≤ q))
    (hn : As.length = np) (hR : rm.frames + 1 ≤ R.frames ∧ 8 + (nn + 11) + rm.locals ≤ R.locals) (hm : rm.cells = mc ∧ rm.slots = ms) (hf : cells + mc ≤ R.cells ∧ slots + ms ≤ R.slots) (hw : (rest.map fun v => v.category).sum ≤ 8)
    (kk : ∀ (v : Option Value) (sz' : Nat) (kd' : xKd) (rf' : xRf) (M' : xM), post v sz' kd' rf' M' → G p l e R s m args below meth c D Bs nL (cells + mc) (slots + ms) Q sz' kd' rf' M' pc' ls (v.toList ++ rest)) : G p l e R s m args below meth c D Bs nL cells slots Q sz kd rf M pc ls (As.reverse ++ rest) := by
  refine G.callX hp (a := As.toArray) (fun H locs la hW hS hs => ?_) kk
  obtain ⟨hx, hb, hml, hown, hts, hK, -, -⟩ := X
  have S : CallFix p m c cc nL s args gw own := ⟨hx, hb, hml, hown, hts⟩
  obtain ⟨⟨hcode, hini, hy, hpd, -⟩, hstt⟩ := yv
  have hG := gw_cons hcode
  have hlen := xR_of hpd
  have hX2 : va_X b L xs s H := hX.kept (hS.2.1 b hbl (show ¬ Bs ≤ b by omega))
  have hpre : PreS s H (xPs D Bs As sz kd rf M b L xs) As := ⟨xPs_blind, fun U hU hWm => ⟨rfl, by rw [hU]; exact hW, hK.warm hWm, by rw [hU]; exact va_X.moved hWm.alike hX2⟩⟩
  rcases ml with ml | ⟨host, ml⟩
  · exact va_runS S ct ⟨⟨hm.1, hm.2, hR.1, hR.2, pay_in hts hG, List.mem_cons_self, hts _ hcode, hts _ hini, hy, hlen, hts _ ml⟩, hts _ hstt⟩ hpre rfl hn hs rfl (lv_room hw) hd hf
  · exact va_runSN S ct ⟨⟨⟨hm.1, hm.2, hR.1, hR.2, pay_in hts hG, List.mem_cons_self⟩, hts _ hcode, hts _ hini, hy, hlen, va_Nw.use rfl (hK.2.1 _ ml)⟩, hts _ hstt, trivial⟩ hpre rfl hn hs rfl (lv_room hw) hd hf
end GL
set_option maxHeartbeats 1000000 in
set_option maxRecDepth 100000 in
/-- the script's cell, or a number beyond it -/
theorem c_L_cell (l : Launch) (D : xD) (Bs sz : Nat) (kd : xKd) (rf : xRf) (M : xM) (b L : Nat) (xs : Nat → Int32) (k : Int) (hk : 0 ≤ k ∧ k < 100) (hL : L ≤ 260) (hbB : b < Bs) : Met l yL_cell (Cond.code yL_cell cL_cell 2 (some .int) :: gw) (rmd 0) (xPs D Bs [.ref b, vi k] sz kd rf M b L xs) (xQ D Bs (pI sz kd rf (fun q M' => IR q ∧ M' = M))) 0 0 (fun q => Bs ≤ q) := by
  refine Met.ofW (cc := cL_cell) (maxL := 2) (ret := some .int) (ys_L_cell.1.2.2.2.2) rfl ?_
  intro p e s m args below meth c s₁ B hml hv
  obtain ⟨rfl, hW, hK, hX⟩ := hv
  have hts := atoms_spec (ws := Cond.code yL_cell cL_cell 2 (some .int) :: gw) B.pre
  have X : Cx p s m meth c ([Value.ref b, vi k] : List Value).toArray cL_cell 2 RL (some .int) D := ⟨B.exec, B.bytes, hml, findClass_of_methodNamed B.named, fun w hw => hts w (List.mem_cons_of_mem _ hw), hK, B.returns, B.notSynchronized⟩
  have hbl : b < s.heap.size := by
    obtain ⟨scr, h1, -⟩ := hX
    exact (Array.getElem?_eq_some_iff.mp h1).1
  have hl := lv_entry ([Value.ref b, vi k] : List Value) (n := 2) (Nat.le_of_ble_eq_true rfl)
  rw [lg_entry_eq]
  have hg : G p l e (rmd 0) s m ([Value.ref b, vi k] : List Value).toArray below meth c D Bs 2 0 0 (MQ below (xQ D Bs (pI sz kd rf (fun q M' => IR q ∧ M' = M))) ([Value.ref b, vi k] : List Value).toArray s 0 0 (fun q => Bs ≤ q)) sz kd rf M 0 [some (.ref b), some (vi k)] [] := by
    refine G.iload_n X 1 dL_cell_0 rfl rfl ?_
    refine G.aload_n X 2 dL_cell_1 rfl rfl ?_
    refine G.slen X hX hbl hbB 3 dL_cell_2 rfl ?_
    refine G.icmp_ge X 12 6 dL_cell_3 (by decide) rfl (by omega) (by omega) (fun hc => ?_) (fun hc => ?_)
    · refine G.ldc (n := 2570009) X ko_L_7 14 dL_cell_12 rfl (by decide) ?_
      refine G.iload_n X 15 dL_cell_14 rfl rfl ?_
      refine G.imul X 16 dL_cell_15 rfl ?_
      refine G.sipush X 19 dL_cell_16 rfl (by decide) ?_
      refine G.iadd X 20 dL_cell_19 rfl ?_
      exact G.iret X dL_cell_20 ⟨Nat.le_refl _, Nat.le_refl _⟩ ⟨rfl, rfl, rfl, _, rfl, ⟨by omega, by omega⟩, rfl⟩
    · obtain ⟨i, hi⟩ : ∃ i : Nat, k = (i : Int) := ⟨k.toNat, by omega⟩
      refine G.aload_n X 7 dL_cell_6 rfl rfl ?_
      refine G.iload_n X 8 dL_cell_7 rfl rfl ?_
      refine G.sld (i := i) X hX hbl hbB 9 dL_cell_8 rfl hi (by omega) hL ?_
      refine G.goto X 20 dL_cell_9 (by decide) ?_
      exact G.iret X dL_cell_20 ⟨Nat.le_refl _, Nat.le_refl _⟩ ⟨rfl, rfl, rfl, _, rfl, ir_x _, rfl⟩
  refine hg s.heap [] _ hW va_S.rf ⟨?_, trivial⟩
  exact hl
set_option maxHeartbeats 1000000 in
set_option maxRecDepth 100000 in
theorem c_L_low (l : Launch) (D : xD) (Bs sz : Nat) (kd : xKd) (rf : xRf) (M : xM) (x n : Int) (hn : 0 < n ∧ n ≤ 2147483647) : CtI l D Bs yL_low cL_low 2 (some .int) 0 [vi x, vi n] sz kd rf M (fun q M' => (∃ j : Nat, q = (j : Int) ∧ (j : Int) < n) ∧ M' = M) := by
  refine Ctr.of (ys_L_low.1.2.2.2.2) (List.forall_mem_cons.mpr ⟨rfl, List.forall_mem_cons.mpr ⟨rfl, fun _ h => absurd h List.not_mem_nil⟩⟩) (Nat.le_of_ble_eq_true rfl) [some (vi x), some (vi n)] rfl ?_
  intro p e s m args below meth c X hin
  refine G.iload_n X 1 dL_low_0 rfl rfl ?_
  refine G.ldc (n := 2147483647) X ko_L_8 3 dL_low_1 rfl (by decide) ?_
  refine G.mask31 X 4 dL_low_3 rfl (fun y hy => ?_)
  refine G.iload_n X 5 dL_low_4 rfl rfl ?_
  refine G.iremI X 6 dL_low_5 rfl (by omega) (by omega) ?_
  refine G.iret X dL_low_6 ⟨Nat.le_refl _, Nat.le_refl _⟩ ⟨rfl, rfl, rfl, _, rfl, ?_, rfl⟩
  have h1 := Int.emod_nonneg y (show n ≠ 0 by omega)
  have h2 := Int.emod_lt_of_pos y hn.1
  exact ⟨(y % n).toNat, by omega, by omega⟩
/-! the world as the law sees it: one object, all its states in order -/
def Iw (r : xR) (h : List xR) (sn : Option xR) : Prop := Jr r ∧ (∀ q ∈ h, Jr q) ∧ (∀ q, sn = some q → Jr q) ∧ h.length ≤ 5
theorem Iw.cb {r : xR} {h : List xR} {sn : Option xR} (hI : Iw r h sn) : CB h sn := ⟨fun q hq => (hI.2.1 q hq).1.1.bn, fun q hq => (hI.2.2.1 q hq).1.1.bn⟩
theorem Iw.act {r q : xR} {h : List xR} {sn : Option xR} (hI : Iw r h sn) (hq : Jr q) : Iw q ((r :: h).take 5) sn := by
  refine ⟨hq, fun x hx => ?_, hI.2.2.1, ?_⟩
  · rcases List.mem_cons.mp (List.mem_of_mem_take hx) with e | e
    · rw [e]
      exact hI.1
    · exact hI.2.1 x e
  · rw [List.length_take]
    omega
def Ob (kd : xKd) (rf : xRf) (a : Nat) (M : xM) (r : xR) (h : List xR) (sn : Option xR) : Prop := ShX kd rf a ∧ Iw r h sn ∧ CSt M a r h sn []
section GS
variable {p : Program} {l : Launch} {e : Env} {R : Room} {s : State} {m : MethodId} {args : Array Value} {below : List Frame} {meth : Method} {c : Code} {D : xD} {Bs nL cells slots : Nat} {Q : State → Prop} {sz : Nat} {kd : xKd} {rf : xRf} {M : xM} {cc : ByteArray} {own : String} {ret : Option FieldType} {pc : Nat} {ls : List (Option Value)} {st : List Value}
variable {a : Nat} {r : xR} {h : List xR} {sn : Option xR}
theorem GS.set (X : Cx p s m meth c args cc nL own ret D) (hO : Ob kd rf a M r h sn) {idx : Nat} {x y : Int} {v : Int} {rest : List Value} (ml : ML own idx yX5_set) (pc' : Nat) (hd : decode cc pc = .ok (.invokevirtual idx, 3)) (hp : pc + 3 = pc') (hv : setF x y r = v) (rx : IR x) (ry : IR y) (hR : 2 + 1 ≤ R.frames ∧ 8 + (4 + 11) + 40 * 2 ≤ R.locals) (hf : cells ≤ R.cells ∧ slots ≤ R.slots) (hw : (rest.map fun v => v.category).sum ≤ 8)
    (kk : G p l e R s m args below meth c D Bs nL cells slots Q sz kd rf M pc' ls (vi v :: rest)) : G p l e R s m args below meth c D Bs nL cells slots Q sz kd rf M pc ls (vi y :: vi x :: .ref a :: rest) := by
  subst hv
  obtain ⟨hX, hI, hC⟩ := id hO
  refine G.vI2 (d := 2) X ml yv_X5_set pc' hd hp (c_X5_set l D Bs sz kd rf M a r h sn [] x y hX hI.1.1 hI.cb hC rx ry) ⟨_, _, hX.1, rfl, rfl⟩ hR hf hw (fun q M' h1 => ?_)
  obtain ⟨e1, e2⟩ := h1
  subst e1
  rw [e2]
  exact kk
theorem GS.site (X : Cx p s m meth c args cc nL own ret D) (hO : Ob kd rf a M r h sn) {idx : Nat} {x y : Int} {v : Int} {rest : List Value} (ml : ML own idx yX5_site) (pc' : Nat) (hd : decode cc pc = .ok (.invokevirtual idx, 3)) (hp : pc + 3 = pc') (hv : sitF x y r = v) (rx : IR x) (ry : IR y) (hR : 1 + 1 ≤ R.frames ∧ 8 + (4 + 11) + 40 * 1 ≤ R.locals) (hf : cells ≤ R.cells ∧ slots ≤ R.slots) (hw : (rest.map fun v => v.category).sum ≤ 8)
    (kk : G p l e R s m args below meth c D Bs nL cells slots Q sz kd rf M pc' ls (vi v :: rest)) : G p l e R s m args below meth c D Bs nL cells slots Q sz kd rf M pc ls (vi y :: vi x :: .ref a :: rest) := by
  subst hv
  obtain ⟨hX, hI, hC⟩ := id hO
  refine G.vI2 (d := 1) X ml yv_X5_site pc' hd hp (c_X5_site l D Bs sz kd rf M a r h sn [] x y hX hI.1.1 hI.cb hC rx ry) ⟨_, _, hX.1, rfl, rfl⟩ hR hf hw (fun q M' h1 => ?_)
  obtain ⟨e1, e2⟩ := h1
  subst e1
  rw [e2]
  exact kk
theorem GS.why (X : Cx p s m meth c args cc nL own ret D) (hO : Ob kd rf a M r h sn) {idx : Nat} {x : Int} {v : Int} {rest : List Value} (ml : ML own idx yX5_why) (pc' : Nat) (hd : decode cc pc = .ok (.invokevirtual idx, 3)) (hp : pc + 3 = pc') (hv : whyF x r = v) (rx : IR x) (hR : 3 + 1 ≤ R.frames ∧ 8 + (3 + 11) + 40 * 3 ≤ R.locals) (hf : cells ≤ R.cells ∧ slots ≤ R.slots) (hw : (rest.map fun v => v.category).sum ≤ 8)
    (kk : G p l e R s m args below meth c D Bs nL cells slots Q sz kd rf M pc' ls (vi v :: rest)) : G p l e R s m args below meth c D Bs nL cells slots Q sz kd rf M pc ls (vi x :: .ref a :: rest) := by
  subst hv
  obtain ⟨hX, hI, hC⟩ := id hO
  refine G.vI1 (d := 3) X ml yv_X5_why pc' hd hp (c_X5_why l D Bs sz kd rf M a r h sn [] x hX hI.1.1 hI.cb hC rx) ⟨_, _, hX.1, rfl, rfl⟩ hR hf hw (fun q M' h1 => ?_)
  obtain ⟨e1, e2⟩ := h1
  subst e1
  rw [e2]
  exact kk
theorem GS.count (X : Cx p s m meth c args cc nL own ret D) (hO : Ob kd rf a M r h sn) {idx : Nat} {x : Int} {v : Int} {rest : List Value} (ml : ML own idx yX5_count) (pc' : Nat) (hd : decode cc pc = .ok (.invokevirtual idx, 3)) (hp : pc + 3 = pc') (hv : cntF x r (h.length : Int) 0 = v) (rx : IR x) (hR : 6 + 1 ≤ R.frames ∧ 8 + (2 + 11) + 40 * 6 ≤ R.locals) (hf : cells ≤ R.cells ∧ slots ≤ R.slots) (hw : (rest.map fun v => v.category).sum ≤ 8)
    (kk : ∀ M', Ob kd rf a M' r h sn → G p l e R s m args below meth c D Bs nL cells slots Q sz kd rf M' pc' ls (vi v :: rest)) : G p l e R s m args below meth c D Bs nL cells slots Q sz kd rf M pc ls (vi x :: .ref a :: rest) := by
  subst hv
  obtain ⟨hX, hI, hC⟩ := id hO
  refine G.vI1 (d := 6) X ml yv_X5_count pc' hd hp (c_X5_count l D Bs sz kd rf M a r h sn [] x hX hI.1.1 hI.cb hC rx) ⟨_, _, hX.1, rfl, rfl⟩ hR hf hw (fun q M' h1 => ?_)
  obtain ⟨e1, C1, -⟩ := h1
  subst e1
  exact kk M' ⟨hX, hI, C1⟩
theorem GS.needy (X : Cx p s m meth c args cc nL own ret D) (hO : Ob kd rf a M r h sn) {idx : Nat} {x : Int} {v : Int} {rest : List Value} (ml : ML own idx yX5_needy) (pc' : Nat) (hd : decode cc pc = .ok (.invokevirtual idx, 3)) (hp : pc + 3 = pc') (hv : nthF (needL r) x = v) (rx : IR x) (hR : 6 + 1 ≤ R.frames ∧ 8 + (3 + 11) + 40 * 6 ≤ R.locals) (hf : cells ≤ R.cells ∧ slots ≤ R.slots) (hw : (rest.map fun v => v.category).sum ≤ 8)
    (kk : ∀ M', Ob kd rf a M' r h sn → G p l e R s m args below meth c D Bs nL cells slots Q sz kd rf M' pc' ls (vi v :: rest)) : G p l e R s m args below meth c D Bs nL cells slots Q sz kd rf M pc ls (vi x :: .ref a :: rest) := by
  subst hv
  obtain ⟨hX, hI, hC⟩ := id hO
  refine G.vI1 (d := 6) X ml yv_X5_needy pc' hd hp (c_X5_needy l D Bs sz kd rf M a r h sn [] x hX hI.1.1 hI.cb hC rx) ⟨_, _, hX.1, rfl, rfl⟩ hR hf hw (fun q M' h1 => ?_)
  obtain ⟨e1, C1, -⟩ := h1
  subst e1
  exact kk M' ⟨hX, hI, C1⟩
theorem GS.thirsty (X : Cx p s m meth c args cc nL own ret D) (hO : Ob kd rf a M r h sn) {idx : Nat} {x : Int} {v : Int} {rest : List Value} (ml : ML own idx yX5_thirsty) (pc' : Nat) (hd : decode cc pc = .ok (.invokevirtual idx, 3)) (hp : pc + 3 = pc') (hv : nthF (thirL r) x = v) (rx : IR x) (hR : 6 + 1 ≤ R.frames ∧ 8 + (3 + 11) + 40 * 6 ≤ R.locals) (hf : cells ≤ R.cells ∧ slots ≤ R.slots) (hw : (rest.map fun v => v.category).sum ≤ 8)
    (kk : ∀ M', Ob kd rf a M' r h sn → G p l e R s m args below meth c D Bs nL cells slots Q sz kd rf M' pc' ls (vi v :: rest)) : G p l e R s m args below meth c D Bs nL cells slots Q sz kd rf M pc ls (vi x :: .ref a :: rest) := by
  subst hv
  obtain ⟨hX, hI, hC⟩ := id hO
  refine G.vI1 (d := 6) X ml yv_X5_thirsty pc' hd hp (c_X5_thirsty l D Bs sz kd rf M a r h sn [] x hX hI.1.1 hI.cb hC rx) ⟨_, _, hX.1, rfl, rfl⟩ hR hf hw (fun q M' h1 => ?_)
  obtain ⟨e1, C1, -⟩ := h1
  subst e1
  exact kk M' ⟨hX, hI, C1⟩
theorem GS.forecast (X : Cx p s m meth c args cc nL own ret D) (hO : Ob kd rf a M r h sn) {idx : Nat} {x y : Int} {v : Int} {rest : List Value} (ml : ML own idx yX5_forecast) (pc' : Nat) (hd : decode cc pc = .ok (.invokevirtual idx, 3)) (hp : pc + 3 = pc') (hv : foreF x y r = v) (rx : IR x) (ry : IR y) (hR : 6 + 1 ≤ R.frames ∧ 8 + (3 + 11) + 40 * 6 ≤ R.locals) (hf : cells ≤ R.cells ∧ slots ≤ R.slots) (hw : (rest.map fun v => v.category).sum ≤ 8)
    (kk : ∀ M', Ob kd rf a M' r h sn → G p l e R s m args below meth c D Bs nL cells slots Q sz kd rf M' pc' ls (vi v :: rest)) : G p l e R s m args below meth c D Bs nL cells slots Q sz kd rf M pc ls (vi y :: vi x :: .ref a :: rest) := by
  subst hv
  obtain ⟨hX, hI, hC⟩ := id hO
  refine G.vI2 (d := 6) X ml yv_X5_forecast pc' hd hp (c_X5_forecast l D Bs sz kd rf M a r h sn [] x y hX hI.1.1 hI.cb hC rx ry) ⟨_, _, hX.1, rfl, rfl⟩ hR hf hw (fun q M' h1 => ?_)
  obtain ⟨e1, C1, -⟩ := h1
  subst e1
  exact kk M' ⟨hX, hI, C1⟩
theorem GS.buyN (X : Cx p s m meth c args cc nL own ret D) (hO : Ob kd rf a M r h sn) {idx : Nat} {x : Int} {v : Int} {rest : List Value} (ml : ML own idx yX5_buy) (pc' : Nat) (hd : decode cc pc = .ok (.invokevirtual idx, 3)) (hp : pc + 3 = pc') (hv : buyF x r = (v, none)) (rx : IR x) (hR : 3 + 1 ≤ R.frames ∧ 8 + (2 + 11) + 40 * 3 ≤ R.locals) (hf : cells ≤ R.cells ∧ slots ≤ R.slots) (hw : (rest.map fun v => v.category).sum ≤ 8)
    (kk : ∀ M', Ob kd rf a M' r h sn → G p l e R s m args below meth c D Bs nL cells slots Q sz kd rf M' pc' ls (vi v :: rest)) : G p l e R s m args below meth c D Bs nL cells slots Q sz kd rf M pc ls (vi x :: .ref a :: rest) := by
  obtain ⟨hX, hI, hC⟩ := id hO
  refine G.vI1 (d := 3) X ml yv_X5_buy pc' hd hp (c_X5_buy l D Bs sz kd rf M a r h sn [] x hX hI.1.1 hI.cb hC rx) ⟨_, _, hX.1, rfl, rfl⟩ hR hf hw (fun q M' h1 => ?_)
  rw [hv] at h1
  obtain ⟨e1, C1, -⟩ := h1
  rw [e1]
  exact kk M' ⟨hX, hI, C1⟩
theorem GS.buyS (X : Cx p s m meth c args cc nL own ret D) (hO : Ob kd rf a M r h sn) {idx : Nat} {x : Int} {v : Int} {rest : List Value} (ml : ML own idx yX5_buy) (pc' : Nat) (hd : decode cc pc = .ok (.invokevirtual idx, 3)) (hp : pc + 3 = pc') {r1 : xR} (hv : buyF x r = (v, some r1)) (hq : Jr r1) (rx : IR x) (hR : 3 + 1 ≤ R.frames ∧ 8 + (2 + 11) + 40 * 3 ≤ R.locals) (hf : cells ≤ R.cells ∧ slots ≤ R.slots) (hw : (rest.map fun v => v.category).sum ≤ 8)
    (kk : ∀ M', Ob kd rf a M' r1 ((r :: h).take 5) sn → G p l e R s m args below meth c D Bs nL cells slots Q sz kd rf M' pc' ls (vi v :: rest)) : G p l e R s m args below meth c D Bs nL cells slots Q sz kd rf M pc ls (vi x :: .ref a :: rest) := by
  obtain ⟨hX, hI, hC⟩ := id hO
  refine G.vI1 (d := 3) X ml yv_X5_buy pc' hd hp (c_X5_buy l D Bs sz kd rf M a r h sn [] x hX hI.1.1 hI.cb hC rx) ⟨_, _, hX.1, rfl, rfl⟩ hR hf hw (fun q M' h1 => ?_)
  rw [hv] at h1
  obtain ⟨e1, C1, -⟩ := h1
  rw [e1]
  exact kk M' ⟨hX, hI.act hq, C1⟩
theorem GS.weatherN (X : Cx p s m meth c args cc nL own ret D) (hO : Ob kd rf a M r h sn) {idx : Nat} {x : Int} {v : Int} {rest : List Value} (ml : ML own idx yX5_weather) (pc' : Nat) (hd : decode cc pc = .ok (.invokevirtual idx, 3)) (hp : pc + 3 = pc') (hv : weatherF x r = (v, none)) (rx : IR x) (hR : 3 + 1 ≤ R.frames ∧ 8 + (3 + 11) + 40 * 3 ≤ R.locals) (hf : cells ≤ R.cells ∧ slots ≤ R.slots) (hw : (rest.map fun v => v.category).sum ≤ 8)
    (kk : ∀ M', Ob kd rf a M' r h sn → G p l e R s m args below meth c D Bs nL cells slots Q sz kd rf M' pc' ls (vi v :: rest)) : G p l e R s m args below meth c D Bs nL cells slots Q sz kd rf M pc ls (vi x :: .ref a :: rest) := by
  obtain ⟨hX, hI, hC⟩ := id hO
  refine G.vI1 (d := 3) X ml yv_X5_weather pc' hd hp (c_X5_weather l D Bs sz kd rf M a r h sn [] x hX hI.1.1 hI.cb hC rx) ⟨_, _, hX.1, rfl, rfl⟩ hR hf hw (fun q M' h1 => ?_)
  rw [hv] at h1
  obtain ⟨e1, C1, -⟩ := h1
  rw [e1]
  exact kk M' ⟨hX, hI, C1⟩
theorem GS.weatherS (X : Cx p s m meth c args cc nL own ret D) (hO : Ob kd rf a M r h sn) {idx : Nat} {x : Int} {v : Int} {rest : List Value} (ml : ML own idx yX5_weather) (pc' : Nat) (hd : decode cc pc = .ok (.invokevirtual idx, 3)) (hp : pc + 3 = pc') {r1 : xR} (hv : weatherF x r = (v, some r1)) (hq : Jr r1) (rx : IR x) (hR : 3 + 1 ≤ R.frames ∧ 8 + (3 + 11) + 40 * 3 ≤ R.locals) (hf : cells ≤ R.cells ∧ slots ≤ R.slots) (hw : (rest.map fun v => v.category).sum ≤ 8)
    (kk : ∀ M', Ob kd rf a M' r1 ((r :: h).take 5) sn → G p l e R s m args below meth c D Bs nL cells slots Q sz kd rf M' pc' ls (vi v :: rest)) : G p l e R s m args below meth c D Bs nL cells slots Q sz kd rf M pc ls (vi x :: .ref a :: rest) := by
  obtain ⟨hX, hI, hC⟩ := id hO
  refine G.vI1 (d := 3) X ml yv_X5_weather pc' hd hp (c_X5_weather l D Bs sz kd rf M a r h sn [] x hX hI.1.1 hI.cb hC rx) ⟨_, _, hX.1, rfl, rfl⟩ hR hf hw (fun q M' h1 => ?_)
  rw [hv] at h1
  obtain ⟨e1, C1, -⟩ := h1
  rw [e1]
  exact kk M' ⟨hX, hI.act hq, C1⟩
theorem GS.setPriceN (X : Cx p s m meth c args cc nL own ret D) (hO : Ob kd rf a M r h sn) {idx : Nat} {x : Int} {v : Int} {rest : List Value} (ml : ML own idx yX5_setPrice) (pc' : Nat) (hd : decode cc pc = .ok (.invokevirtual idx, 3)) (hp : pc + 3 = pc') (hv : priceF x r = (v, none)) (rx : IR x) (hR : 3 + 1 ≤ R.frames ∧ 8 + (3 + 11) + 40 * 3 ≤ R.locals) (hf : cells ≤ R.cells ∧ slots ≤ R.slots) (hw : (rest.map fun v => v.category).sum ≤ 8)
    (kk : ∀ M', Ob kd rf a M' r h sn → G p l e R s m args below meth c D Bs nL cells slots Q sz kd rf M' pc' ls (vi v :: rest)) : G p l e R s m args below meth c D Bs nL cells slots Q sz kd rf M pc ls (vi x :: .ref a :: rest) := by
  obtain ⟨hX, hI, hC⟩ := id hO
  refine G.vI1 (d := 3) X ml yv_X5_setPrice pc' hd hp (c_X5_setPrice l D Bs sz kd rf M a r h sn [] x hX hI.1.1 hI.cb hC rx) ⟨_, _, hX.1, rfl, rfl⟩ hR hf hw (fun q M' h1 => ?_)
  rw [hv] at h1
  obtain ⟨e1, C1, -⟩ := h1
  rw [e1]
  exact kk M' ⟨hX, hI, C1⟩
theorem GS.setPriceS (X : Cx p s m meth c args cc nL own ret D) (hO : Ob kd rf a M r h sn) {idx : Nat} {x : Int} {v : Int} {rest : List Value} (ml : ML own idx yX5_setPrice) (pc' : Nat) (hd : decode cc pc = .ok (.invokevirtual idx, 3)) (hp : pc + 3 = pc') {r1 : xR} (hv : priceF x r = (v, some r1)) (hq : Jr r1) (rx : IR x) (hR : 3 + 1 ≤ R.frames ∧ 8 + (3 + 11) + 40 * 3 ≤ R.locals) (hf : cells ≤ R.cells ∧ slots ≤ R.slots) (hw : (rest.map fun v => v.category).sum ≤ 8)
    (kk : ∀ M', Ob kd rf a M' r1 ((r :: h).take 5) sn → G p l e R s m args below meth c D Bs nL cells slots Q sz kd rf M' pc' ls (vi v :: rest)) : G p l e R s m args below meth c D Bs nL cells slots Q sz kd rf M pc ls (vi x :: .ref a :: rest) := by
  obtain ⟨hX, hI, hC⟩ := id hO
  refine G.vI1 (d := 3) X ml yv_X5_setPrice pc' hd hp (c_X5_setPrice l D Bs sz kd rf M a r h sn [] x hX hI.1.1 hI.cb hC rx) ⟨_, _, hX.1, rfl, rfl⟩ hR hf hw (fun q M' h1 => ?_)
  rw [hv] at h1
  obtain ⟨e1, C1, -⟩ := h1
  rw [e1]
  exact kk M' ⟨hX, hI.act hq, C1⟩
theorem GS.addSetN (X : Cx p s m meth c args cc nL own ret D) (hO : Ob kd rf a M r h sn) {idx : Nat} {x y z w : Int} {v : Int} {rest : List Value} (ml : ML own idx yX5_addSet) (pc' : Nat) (hd : decode cc pc = .ok (.invokevirtual idx, 3)) (hp : pc + 3 = pc') (hv : addSetF x y z w r = (v, none)) (rx : IR x) (ry : IR y) (rz : IR z) (rw : IR w) (hR : 3 + 1 ≤ R.frames ∧ 8 + (6 + 11) + 40 * 3 ≤ R.locals) (hf : cells ≤ R.cells ∧ slots ≤ R.slots) (hw : (rest.map fun v => v.category).sum ≤ 8)
    (kk : ∀ M', Ob kd rf a M' r h sn → G p l e R s m args below meth c D Bs nL cells slots Q sz kd rf M' pc' ls (vi v :: rest)) : G p l e R s m args below meth c D Bs nL cells slots Q sz kd rf M pc ls (vi w :: vi z :: vi y :: vi x :: .ref a :: rest) := by
  obtain ⟨hX, hI, hC⟩ := id hO
  refine G.vI4 (d := 3) X ml yv_X5_addSet pc' hd hp (c_X5_addSet l D Bs sz kd rf M a r h sn [] x y z w hX hI.1.1 hI.cb hC rx ry rz rw) ⟨_, _, hX.1, rfl, rfl⟩ hR hf hw (fun q M' h1 => ?_)
  rw [hv] at h1
  obtain ⟨e1, C1, -⟩ := h1
  rw [e1]
  exact kk M' ⟨hX, hI, C1⟩
theorem GS.addSetS (X : Cx p s m meth c args cc nL own ret D) (hO : Ob kd rf a M r h sn) {idx : Nat} {x y z w : Int} {v : Int} {rest : List Value} (ml : ML own idx yX5_addSet) (pc' : Nat) (hd : decode cc pc = .ok (.invokevirtual idx, 3)) (hp : pc + 3 = pc') {r1 : xR} (hv : addSetF x y z w r = (v, some r1)) (hq : Jr r1) (rx : IR x) (ry : IR y) (rz : IR z) (rw : IR w) (hR : 3 + 1 ≤ R.frames ∧ 8 + (6 + 11) + 40 * 3 ≤ R.locals) (hf : cells ≤ R.cells ∧ slots ≤ R.slots) (hw : (rest.map fun v => v.category).sum ≤ 8)
    (kk : ∀ M', Ob kd rf a M' r1 ((r :: h).take 5) sn → G p l e R s m args below meth c D Bs nL cells slots Q sz kd rf M' pc' ls (vi v :: rest)) : G p l e R s m args below meth c D Bs nL cells slots Q sz kd rf M pc ls (vi w :: vi z :: vi y :: vi x :: .ref a :: rest) := by
  obtain ⟨hX, hI, hC⟩ := id hO
  refine G.vI4 (d := 3) X ml yv_X5_addSet pc' hd hp (c_X5_addSet l D Bs sz kd rf M a r h sn [] x y z w hX hI.1.1 hI.cb hC rx ry rz rw) ⟨_, _, hX.1, rfl, rfl⟩ hR hf hw (fun q M' h1 => ?_)
  rw [hv] at h1
  obtain ⟨e1, C1, -⟩ := h1
  rw [e1]
  exact kk M' ⟨hX, hI.act hq, C1⟩
theorem GS.addSiteN (X : Cx p s m meth c args cc nL own ret D) (hO : Ob kd rf a M r h sn) {idx : Nat} {x y z w : Int} {v : Int} {rest : List Value} (ml : ML own idx yX5_addSite) (pc' : Nat) (hd : decode cc pc = .ok (.invokevirtual idx, 3)) (hp : pc + 3 = pc') (hv : addSiteF x y z w r = (v, none)) (rx : IR x) (ry : IR y) (rz : IR z) (rw : IR w) (hR : 3 + 1 ≤ R.frames ∧ 8 + (5 + 11) + 40 * 3 ≤ R.locals) (hf : cells ≤ R.cells ∧ slots ≤ R.slots) (hw : (rest.map fun v => v.category).sum ≤ 8)
    (kk : ∀ M', Ob kd rf a M' r h sn → G p l e R s m args below meth c D Bs nL cells slots Q sz kd rf M' pc' ls (vi v :: rest)) : G p l e R s m args below meth c D Bs nL cells slots Q sz kd rf M pc ls (vi w :: vi z :: vi y :: vi x :: .ref a :: rest) := by
  obtain ⟨hX, hI, hC⟩ := id hO
  refine G.vI4 (d := 3) X ml yv_X5_addSite pc' hd hp (c_X5_addSite l D Bs sz kd rf M a r h sn [] x y z w hX hI.1.1 hI.cb hC rx ry rz rw) ⟨_, _, hX.1, rfl, rfl⟩ hR hf hw (fun q M' h1 => ?_)
  rw [hv] at h1
  obtain ⟨e1, C1, -⟩ := h1
  rw [e1]
  exact kk M' ⟨hX, hI, C1⟩
theorem GS.addSiteS (X : Cx p s m meth c args cc nL own ret D) (hO : Ob kd rf a M r h sn) {idx : Nat} {x y z w : Int} {v : Int} {rest : List Value} (ml : ML own idx yX5_addSite) (pc' : Nat) (hd : decode cc pc = .ok (.invokevirtual idx, 3)) (hp : pc + 3 = pc') {r1 : xR} (hv : addSiteF x y z w r = (v, some r1)) (hq : Jr r1) (rx : IR x) (ry : IR y) (rz : IR z) (rw : IR w) (hR : 3 + 1 ≤ R.frames ∧ 8 + (5 + 11) + 40 * 3 ≤ R.locals) (hf : cells ≤ R.cells ∧ slots ≤ R.slots) (hw : (rest.map fun v => v.category).sum ≤ 8)
    (kk : ∀ M', Ob kd rf a M' r1 ((r :: h).take 5) sn → G p l e R s m args below meth c D Bs nL cells slots Q sz kd rf M' pc' ls (vi v :: rest)) : G p l e R s m args below meth c D Bs nL cells slots Q sz kd rf M pc ls (vi w :: vi z :: vi y :: vi x :: .ref a :: rest) := by
  obtain ⟨hX, hI, hC⟩ := id hO
  refine G.vI4 (d := 3) X ml yv_X5_addSite pc' hd hp (c_X5_addSite l D Bs sz kd rf M a r h sn [] x y z w hX hI.1.1 hI.cb hC rx ry rz rw) ⟨_, _, hX.1, rfl, rfl⟩ hR hf hw (fun q M' h1 => ?_)
  rw [hv] at h1
  obtain ⟨e1, C1, -⟩ := h1
  rw [e1]
  exact kk M' ⟨hX, hI.act hq, C1⟩
theorem GS.fillN (X : Cx p s m meth c args cc nL own ret D) (hO : Ob kd rf a M r h sn) {idx : Nat} {x : Int} {v : Int} {rest : List Value} (ml : ML own idx yX5_fill) (pc' : Nat) (hd : decode cc pc = .ok (.invokevirtual idx, 3)) (hp : pc + 3 = pc') (hv : fillF x r = (v, none)) (rx : IR x) (hR : 3 + 1 ≤ R.frames ∧ 8 + (4 + 11) + 40 * 3 ≤ R.locals) (hf : cells ≤ R.cells ∧ slots ≤ R.slots) (hw : (rest.map fun v => v.category).sum ≤ 8)
    (kk : ∀ M', Ob kd rf a M' r h sn → G p l e R s m args below meth c D Bs nL cells slots Q sz kd rf M' pc' ls (vi v :: rest)) : G p l e R s m args below meth c D Bs nL cells slots Q sz kd rf M pc ls (vi x :: .ref a :: rest) := by
  obtain ⟨hX, hI, hC⟩ := id hO
  refine G.vI1 (d := 3) X ml yv_X5_fill pc' hd hp (c_X5_fill l D Bs sz kd rf M a r h sn [] x hX hI.1.1 hI.cb hC rx) ⟨_, _, hX.1, rfl, rfl⟩ hR hf hw (fun q M' h1 => ?_)
  rw [hv] at h1
  obtain ⟨e1, C1, -⟩ := h1
  rw [e1]
  exact kk M' ⟨hX, hI, C1⟩
theorem GS.fillS (X : Cx p s m meth c args cc nL own ret D) (hO : Ob kd rf a M r h sn) {idx : Nat} {x : Int} {v : Int} {rest : List Value} (ml : ML own idx yX5_fill) (pc' : Nat) (hd : decode cc pc = .ok (.invokevirtual idx, 3)) (hp : pc + 3 = pc') {r1 : xR} (hv : fillF x r = (v, some r1)) (hq : Jr r1) (rx : IR x) (hR : 3 + 1 ≤ R.frames ∧ 8 + (4 + 11) + 40 * 3 ≤ R.locals) (hf : cells ≤ R.cells ∧ slots ≤ R.slots) (hw : (rest.map fun v => v.category).sum ≤ 8)
    (kk : ∀ M', Ob kd rf a M' r1 ((r :: h).take 5) sn → G p l e R s m args below meth c D Bs nL cells slots Q sz kd rf M' pc' ls (vi v :: rest)) : G p l e R s m args below meth c D Bs nL cells slots Q sz kd rf M pc ls (vi x :: .ref a :: rest) := by
  obtain ⟨hX, hI, hC⟩ := id hO
  refine G.vI1 (d := 3) X ml yv_X5_fill pc' hd hp (c_X5_fill l D Bs sz kd rf M a r h sn [] x hX hI.1.1 hI.cb hC rx) ⟨_, _, hX.1, rfl, rfl⟩ hR hf hw (fun q M' h1 => ?_)
  rw [hv] at h1
  obtain ⟨e1, C1, -⟩ := h1
  rw [e1]
  exact kk M' ⟨hX, hI.act hq, C1⟩
theorem GS.bringN (X : Cx p s m meth c args cc nL own ret D) (hO : Ob kd rf a M r h sn) {idx : Nat} {x y : Int} {v : Int} {rest : List Value} (ml : ML own idx yX5_bring) (pc' : Nat) (hd : decode cc pc = .ok (.invokevirtual idx, 3)) (hp : pc + 3 = pc') (hv : bringF x y r = (v, none)) (rx : IR x) (ry : IR y) (hR : 3 + 1 ≤ R.frames ∧ 8 + (6 + 11) + 40 * 3 ≤ R.locals) (hf : cells ≤ R.cells ∧ slots ≤ R.slots) (hw : (rest.map fun v => v.category).sum ≤ 8)
    (kk : ∀ M', Ob kd rf a M' r h sn → G p l e R s m args below meth c D Bs nL cells slots Q sz kd rf M' pc' ls (vi v :: rest)) : G p l e R s m args below meth c D Bs nL cells slots Q sz kd rf M pc ls (vi y :: vi x :: .ref a :: rest) := by
  obtain ⟨hX, hI, hC⟩ := id hO
  refine G.vI2 (d := 3) X ml yv_X5_bring pc' hd hp (c_X5_bring l D Bs sz kd rf M a r h sn [] x y hX hI.1.1 hI.cb hC rx ry) ⟨_, _, hX.1, rfl, rfl⟩ hR hf hw (fun q M' h1 => ?_)
  rw [hv] at h1
  obtain ⟨e1, C1, -⟩ := h1
  rw [e1]
  exact kk M' ⟨hX, hI, C1⟩
theorem GS.bringS (X : Cx p s m meth c args cc nL own ret D) (hO : Ob kd rf a M r h sn) {idx : Nat} {x y : Int} {v : Int} {rest : List Value} (ml : ML own idx yX5_bring) (pc' : Nat) (hd : decode cc pc = .ok (.invokevirtual idx, 3)) (hp : pc + 3 = pc') {r1 : xR} (hv : bringF x y r = (v, some r1)) (hq : Jr r1) (rx : IR x) (ry : IR y) (hR : 3 + 1 ≤ R.frames ∧ 8 + (6 + 11) + 40 * 3 ≤ R.locals) (hf : cells ≤ R.cells ∧ slots ≤ R.slots) (hw : (rest.map fun v => v.category).sum ≤ 8)
    (kk : ∀ M', Ob kd rf a M' r1 ((r :: h).take 5) sn → G p l e R s m args below meth c D Bs nL cells slots Q sz kd rf M' pc' ls (vi v :: rest)) : G p l e R s m args below meth c D Bs nL cells slots Q sz kd rf M pc ls (vi y :: vi x :: .ref a :: rest) := by
  obtain ⟨hX, hI, hC⟩ := id hO
  refine G.vI2 (d := 3) X ml yv_X5_bring pc' hd hp (c_X5_bring l D Bs sz kd rf M a r h sn [] x y hX hI.1.1 hI.cb hC rx ry) ⟨_, _, hX.1, rfl, rfl⟩ hR hf hw (fun q M' h1 => ?_)
  rw [hv] at h1
  obtain ⟨e1, C1, -⟩ := h1
  rw [e1]
  exact kk M' ⟨hX, hI.act hq, C1⟩
theorem GS.takeBackN (X : Cx p s m meth c args cc nL own ret D) (hO : Ob kd rf a M r h sn) {idx : Nat} {x : Int} {v : Int} {rest : List Value} (ml : ML own idx yX5_takeBack) (pc' : Nat) (hd : decode cc pc = .ok (.invokevirtual idx, 3)) (hp : pc + 3 = pc') (hv : takeF x r = (v, none)) (rx : IR x) (hR : 3 + 1 ≤ R.frames ∧ 8 + (3 + 11) + 40 * 3 ≤ R.locals) (hf : cells ≤ R.cells ∧ slots ≤ R.slots) (hw : (rest.map fun v => v.category).sum ≤ 8)
    (kk : ∀ M', Ob kd rf a M' r h sn → G p l e R s m args below meth c D Bs nL cells slots Q sz kd rf M' pc' ls (vi v :: rest)) : G p l e R s m args below meth c D Bs nL cells slots Q sz kd rf M pc ls (vi x :: .ref a :: rest) := by
  obtain ⟨hX, hI, hC⟩ := id hO
  refine G.vI1 (d := 3) X ml yv_X5_takeBack pc' hd hp (c_X5_takeBack l D Bs sz kd rf M a r h sn [] x hX hI.1.1 hI.cb hC rx) ⟨_, _, hX.1, rfl, rfl⟩ hR hf hw (fun q M' h1 => ?_)
  rw [hv] at h1
  obtain ⟨e1, C1, -⟩ := h1
  rw [e1]
  exact kk M' ⟨hX, hI, C1⟩
theorem GS.takeBackS (X : Cx p s m meth c args cc nL own ret D) (hO : Ob kd rf a M r h sn) {idx : Nat} {x : Int} {v : Int} {rest : List Value} (ml : ML own idx yX5_takeBack) (pc' : Nat) (hd : decode cc pc = .ok (.invokevirtual idx, 3)) (hp : pc + 3 = pc') {r1 : xR} (hv : takeF x r = (v, some r1)) (hq : Jr r1) (rx : IR x) (hR : 3 + 1 ≤ R.frames ∧ 8 + (3 + 11) + 40 * 3 ≤ R.locals) (hf : cells ≤ R.cells ∧ slots ≤ R.slots) (hw : (rest.map fun v => v.category).sum ≤ 8)
    (kk : ∀ M', Ob kd rf a M' r1 ((r :: h).take 5) sn → G p l e R s m args below meth c D Bs nL cells slots Q sz kd rf M' pc' ls (vi v :: rest)) : G p l e R s m args below meth c D Bs nL cells slots Q sz kd rf M pc ls (vi x :: .ref a :: rest) := by
  obtain ⟨hX, hI, hC⟩ := id hO
  refine G.vI1 (d := 3) X ml yv_X5_takeBack pc' hd hp (c_X5_takeBack l D Bs sz kd rf M a r h sn [] x hX hI.1.1 hI.cb hC rx) ⟨_, _, hX.1, rfl, rfl⟩ hR hf hw (fun q M' h1 => ?_)
  rw [hv] at h1
  obtain ⟨e1, C1, -⟩ := h1
  rw [e1]
  exact kk M' ⟨hX, hI.act hq, C1⟩
theorem GS.passN (X : Cx p s m meth c args cc nL own ret D) (hO : Ob kd rf a M r h sn) {idx : Nat} {x : Int} {v : Int} {rest : List Value} (ml : ML own idx yX5_pass) (pc' : Nat) (hd : decode cc pc = .ok (.invokevirtual idx, 3)) (hp : pc + 3 = pc') (hv : passF x r = (v, none)) (rx : IR x) (hR : 6 + 1 ≤ R.frames ∧ 8 + (3 + 11) + 40 * 6 ≤ R.locals) (hf : cells ≤ R.cells ∧ slots ≤ R.slots) (hw : (rest.map fun v => v.category).sum ≤ 8)
    (kk : ∀ M', Ob kd rf a M' r h sn → G p l e R s m args below meth c D Bs nL cells slots Q sz kd rf M' pc' ls (vi v :: rest)) : G p l e R s m args below meth c D Bs nL cells slots Q sz kd rf M pc ls (vi x :: .ref a :: rest) := by
  obtain ⟨hX, hI, hC⟩ := id hO
  refine G.vI1 (d := 6) X ml yv_X5_pass pc' hd hp (c_X5_pass l D Bs sz kd rf M a r h sn [] x hX hI.1.1 hI.cb hC rx) ⟨_, _, hX.1, rfl, rfl⟩ hR hf hw (fun q M' h1 => ?_)
  rw [hv] at h1
  obtain ⟨e1, C1, -⟩ := h1
  rw [e1]
  exact kk M' ⟨hX, hI, C1⟩
theorem GS.passS (X : Cx p s m meth c args cc nL own ret D) (hO : Ob kd rf a M r h sn) {idx : Nat} {x : Int} {v : Int} {rest : List Value} (ml : ML own idx yX5_pass) (pc' : Nat) (hd : decode cc pc = .ok (.invokevirtual idx, 3)) (hp : pc + 3 = pc') {r1 : xR} (hv : passF x r = (v, some r1)) (hq : Jr r1) (rx : IR x) (hR : 6 + 1 ≤ R.frames ∧ 8 + (3 + 11) + 40 * 6 ≤ R.locals) (hf : cells ≤ R.cells ∧ slots ≤ R.slots) (hw : (rest.map fun v => v.category).sum ≤ 8)
    (kk : ∀ M', Ob kd rf a M' r1 ((r :: h).take 5) sn → G p l e R s m args below meth c D Bs nL cells slots Q sz kd rf M' pc' ls (vi v :: rest)) : G p l e R s m args below meth c D Bs nL cells slots Q sz kd rf M pc ls (vi x :: .ref a :: rest) := by
  obtain ⟨hX, hI, hC⟩ := id hO
  refine G.vI1 (d := 6) X ml yv_X5_pass pc' hd hp (c_X5_pass l D Bs sz kd rf M a r h sn [] x hX hI.1.1 hI.cb hC rx) ⟨_, _, hX.1, rfl, rfl⟩ hR hf hw (fun q M' h1 => ?_)
  rw [hv] at h1
  obtain ⟨e1, C1, -⟩ := h1
  rw [e1]
  exact kk M' ⟨hX, hI.act hq, C1⟩
theorem GS.giveOutN (X : Cx p s m meth c args cc nL own ret D) (hO : Ob kd rf a M r h sn) {idx : Nat}  {v : Int} {rest : List Value} (ml : ML own idx yX5_giveOut) (pc' : Nat) (hd : decode cc pc = .ok (.invokevirtual idx, 3)) (hp : pc + 3 = pc') (hv : giveF r = (v, none))  (hR : 6 + 1 ≤ R.frames ∧ 8 + (6 + 11) + 40 * 6 ≤ R.locals) (hf : cells ≤ R.cells ∧ slots ≤ R.slots) (hw : (rest.map fun v => v.category).sum ≤ 8)
    (kk : ∀ M', Ob kd rf a M' r h sn → G p l e R s m args below meth c D Bs nL cells slots Q sz kd rf M' pc' ls (vi v :: rest)) : G p l e R s m args below meth c D Bs nL cells slots Q sz kd rf M pc ls (.ref a :: rest) := by
  obtain ⟨hX, hI, hC⟩ := id hO
  refine G.vI0 (d := 6) X ml yv_X5_giveOut pc' hd hp (c_X5_giveOut l D Bs sz kd rf M a r h sn []  hX hI.1.1 hI.cb hC ) ⟨_, _, hX.1, rfl, rfl⟩ hR hf hw (fun q M' h1 => ?_)
  rw [hv] at h1
  obtain ⟨e1, C1, -⟩ := h1
  rw [e1]
  exact kk M' ⟨hX, hI, C1⟩
theorem GS.giveOutS (X : Cx p s m meth c args cc nL own ret D) (hO : Ob kd rf a M r h sn) {idx : Nat}  {v : Int} {rest : List Value} (ml : ML own idx yX5_giveOut) (pc' : Nat) (hd : decode cc pc = .ok (.invokevirtual idx, 3)) (hp : pc + 3 = pc') {r1 : xR} (hv : giveF r = (v, some r1)) (hq : Jr r1)  (hR : 6 + 1 ≤ R.frames ∧ 8 + (6 + 11) + 40 * 6 ≤ R.locals) (hf : cells ≤ R.cells ∧ slots ≤ R.slots) (hw : (rest.map fun v => v.category).sum ≤ 8)
    (kk : ∀ M', Ob kd rf a M' r1 ((r :: h).take 5) sn → G p l e R s m args below meth c D Bs nL cells slots Q sz kd rf M' pc' ls (vi v :: rest)) : G p l e R s m args below meth c D Bs nL cells slots Q sz kd rf M pc ls (.ref a :: rest) := by
  obtain ⟨hX, hI, hC⟩ := id hO
  refine G.vI0 (d := 6) X ml yv_X5_giveOut pc' hd hp (c_X5_giveOut l D Bs sz kd rf M a r h sn []  hX hI.1.1 hI.cb hC ) ⟨_, _, hX.1, rfl, rfl⟩ hR hf hw (fun q M' h1 => ?_)
  rw [hv] at h1
  obtain ⟨e1, C1, -⟩ := h1
  rw [e1]
  exact kk M' ⟨hX, hI.act hq, C1⟩
theorem GS.swapN (X : Cx p s m meth c args cc nL own ret D) (hO : Ob kd rf a M r h sn) {idx : Nat}  {v : Int} {rest : List Value} (ml : ML own idx yX5_swap) (pc' : Nat) (hd : decode cc pc = .ok (.invokevirtual idx, 3)) (hp : pc + 3 = pc') (hv : swapL r (needL r) = (v, none))  (hR : 6 + 1 ≤ R.frames ∧ 8 + (6 + 11) + 40 * 6 ≤ R.locals) (hf : cells ≤ R.cells ∧ slots ≤ R.slots) (hw : (rest.map fun v => v.category).sum ≤ 8)
    (kk : ∀ M', Ob kd rf a M' r h sn → G p l e R s m args below meth c D Bs nL cells slots Q sz kd rf M' pc' ls (vi v :: rest)) : G p l e R s m args below meth c D Bs nL cells slots Q sz kd rf M pc ls (.ref a :: rest) := by
  obtain ⟨hX, hI, hC⟩ := id hO
  refine G.vI0 (d := 6) X ml yv_X5_swap pc' hd hp (c_X5_swap l D Bs sz kd rf M a r h sn []  hX hI.1.1 hI.cb hC ) ⟨_, _, hX.1, rfl, rfl⟩ hR hf hw (fun q M' h1 => ?_)
  rw [hv] at h1
  obtain ⟨e1, C1, -⟩ := h1
  rw [e1]
  exact kk M' ⟨hX, hI, C1⟩
theorem GS.swapS (X : Cx p s m meth c args cc nL own ret D) (hO : Ob kd rf a M r h sn) {idx : Nat}  {v : Int} {rest : List Value} (ml : ML own idx yX5_swap) (pc' : Nat) (hd : decode cc pc = .ok (.invokevirtual idx, 3)) (hp : pc + 3 = pc') {r1 : xR} (hv : swapL r (needL r) = (v, some r1)) (hq : Jr r1)  (hR : 6 + 1 ≤ R.frames ∧ 8 + (6 + 11) + 40 * 6 ≤ R.locals) (hf : cells ≤ R.cells ∧ slots ≤ R.slots) (hw : (rest.map fun v => v.category).sum ≤ 8)
    (kk : ∀ M', Ob kd rf a M' r1 ((r :: h).take 5) sn → G p l e R s m args below meth c D Bs nL cells slots Q sz kd rf M' pc' ls (vi v :: rest)) : G p l e R s m args below meth c D Bs nL cells slots Q sz kd rf M pc ls (.ref a :: rest) := by
  obtain ⟨hX, hI, hC⟩ := id hO
  refine G.vI0 (d := 6) X ml yv_X5_swap pc' hd hp (c_X5_swap l D Bs sz kd rf M a r h sn []  hX hI.1.1 hI.cb hC ) ⟨_, _, hX.1, rfl, rfl⟩ hR hf hw (fun q M' h1 => ?_)
  rw [hv] at h1
  obtain ⟨e1, C1, -⟩ := h1
  rw [e1]
  exact kk M' ⟨hX, hI.act hq, C1⟩
theorem GS.fuelRunN (X : Cx p s m meth c args cc nL own ret D) (hO : Ob kd rf a M r h sn) {idx : Nat}  {v : Int} {rest : List Value} (ml : ML own idx yX5_fuelRun) (pc' : Nat) (hd : decode cc pc = .ok (.invokevirtual idx, 3)) (hp : pc + 3 = pc') (hv : fuelF r = (v, none))  (hR : 6 + 1 ≤ R.frames ∧ 8 + (7 + 11) + 40 * 6 ≤ R.locals) (hf : cells ≤ R.cells ∧ slots ≤ R.slots) (hw : (rest.map fun v => v.category).sum ≤ 8)
    (kk : ∀ M', Ob kd rf a M' r h sn → G p l e R s m args below meth c D Bs nL cells slots Q sz kd rf M' pc' ls (vi v :: rest)) : G p l e R s m args below meth c D Bs nL cells slots Q sz kd rf M pc ls (.ref a :: rest) := by
  obtain ⟨hX, hI, hC⟩ := id hO
  refine G.vI0 (d := 6) X ml yv_X5_fuelRun pc' hd hp (c_X5_fuelRun l D Bs sz kd rf M a r h sn []  hX hI.1.1 hI.cb hC ) ⟨_, _, hX.1, rfl, rfl⟩ hR hf hw (fun q M' h1 => ?_)
  rw [hv] at h1
  obtain ⟨e1, C1, -⟩ := h1
  rw [e1]
  exact kk M' ⟨hX, hI, C1⟩
theorem GS.fuelRunS (X : Cx p s m meth c args cc nL own ret D) (hO : Ob kd rf a M r h sn) {idx : Nat}  {v : Int} {rest : List Value} (ml : ML own idx yX5_fuelRun) (pc' : Nat) (hd : decode cc pc = .ok (.invokevirtual idx, 3)) (hp : pc + 3 = pc') {r1 : xR} (hv : fuelF r = (v, some r1)) (hq : Jr r1)  (hR : 6 + 1 ≤ R.frames ∧ 8 + (7 + 11) + 40 * 6 ≤ R.locals) (hf : cells ≤ R.cells ∧ slots ≤ R.slots) (hw : (rest.map fun v => v.category).sum ≤ 8)
    (kk : ∀ M', Ob kd rf a M' r1 ((r :: h).take 5) sn → G p l e R s m args below meth c D Bs nL cells slots Q sz kd rf M' pc' ls (vi v :: rest)) : G p l e R s m args below meth c D Bs nL cells slots Q sz kd rf M pc ls (.ref a :: rest) := by
  obtain ⟨hX, hI, hC⟩ := id hO
  refine G.vI0 (d := 6) X ml yv_X5_fuelRun pc' hd hp (c_X5_fuelRun l D Bs sz kd rf M a r h sn []  hX hI.1.1 hI.cb hC ) ⟨_, _, hX.1, rfl, rfl⟩ hR hf hw (fun q M' h1 => ?_)
  rw [hv] at h1
  obtain ⟨e1, C1, -⟩ := h1
  rw [e1]
  exact kk M' ⟨hX, hI.act hq, C1⟩
theorem GS.readSitesN (X : Cx p s m meth c args cc nL own ret D) (hO : Ob kd rf a M r h sn) {idx : Nat}  {v : Int} {rest : List Value} (ml : ML own idx yX5_readSites) (pc' : Nat) (hd : decode cc pc = .ok (.invokevirtual idx, 3)) (hp : pc + 3 = pc') (hv : readF [] r = (v, none))  (hR : 4 + 1 ≤ R.frames ∧ 8 + (3 + 11) + 40 * 4 ≤ R.locals) (hf : cells ≤ R.cells ∧ slots ≤ R.slots) (hw : (rest.map fun v => v.category).sum ≤ 8)
    (kk : ∀ M', Ob kd rf a M' r h sn → G p l e R s m args below meth c D Bs nL cells slots Q sz kd rf M' pc' ls (vi v :: rest)) : G p l e R s m args below meth c D Bs nL cells slots Q sz kd rf M pc ls (.ref a :: rest) := by
  obtain ⟨hX, hI, hC⟩ := id hO
  refine G.vI0 (d := 4) X ml yv_X5_readSites pc' hd hp (c_X5_readSites l D Bs sz kd rf M a r h sn []  hX hI.1.1 hI.cb hC ) ⟨_, _, hX.1, rfl, rfl⟩ hR hf hw (fun q M' h1 => ?_)
  rw [hv] at h1
  obtain ⟨e1, C1, -⟩ := h1
  rw [e1]
  exact kk M' ⟨hX, hI, C1⟩
theorem GS.readSitesS (X : Cx p s m meth c args cc nL own ret D) (hO : Ob kd rf a M r h sn) {idx : Nat}  {v : Int} {rest : List Value} (ml : ML own idx yX5_readSites) (pc' : Nat) (hd : decode cc pc = .ok (.invokevirtual idx, 3)) (hp : pc + 3 = pc') {r1 : xR} (hv : readF [] r = (v, some r1)) (hq : Jr r1)  (hR : 4 + 1 ≤ R.frames ∧ 8 + (3 + 11) + 40 * 4 ≤ R.locals) (hf : cells ≤ R.cells ∧ slots ≤ R.slots) (hw : (rest.map fun v => v.category).sum ≤ 8)
    (kk : ∀ M', Ob kd rf a M' r1 ((r :: h).take 5) sn → G p l e R s m args below meth c D Bs nL cells slots Q sz kd rf M' pc' ls (vi v :: rest)) : G p l e R s m args below meth c D Bs nL cells slots Q sz kd rf M pc ls (.ref a :: rest) := by
  obtain ⟨hX, hI, hC⟩ := id hO
  refine G.vI0 (d := 4) X ml yv_X5_readSites pc' hd hp (c_X5_readSites l D Bs sz kd rf M a r h sn []  hX hI.1.1 hI.cb hC ) ⟨_, _, hX.1, rfl, rfl⟩ hR hf hw (fun q M' h1 => ?_)
  rw [hv] at h1
  obtain ⟨e1, C1, -⟩ := h1
  rw [e1]
  exact kk M' ⟨hX, hI.act hq, C1⟩
theorem GS.undo0 (X : Cx p s m meth c args cc nL own ret D) (hO : Ob kd rf a M r [] sn) {idx : Nat} {rest : List Value} (ml : ML own idx yX5_undo) (pc' : Nat) (hd : decode cc pc = .ok (.invokevirtual idx, 3)) (hp : pc + 3 = pc')  (hR : 3 + 1 ≤ R.frames ∧ 8 + (1 + 11) + 40 * 3 ≤ R.locals) (hf : cells ≤ R.cells ∧ slots ≤ R.slots) (hw : (rest.map fun v => v.category).sum ≤ 8)
    (kk : ∀ M', Ob kd rf a M' r [] sn → G p l e R s m args below meth c D Bs nL cells slots Q sz kd rf M' pc' ls (vi (-5) :: rest)) : G p l e R s m args below meth c D Bs nL cells slots Q sz kd rf M pc ls (.ref a :: rest) := by
  obtain ⟨hX, hI, hC⟩ := id hO
  refine G.vI0 (d := 3) X ml yv_X5_undo pc' hd hp (c_X5_undo0 l D Bs sz kd rf M a r sn [] hX hC) ⟨_, _, hX.1, rfl, rfl⟩ hR hf hw (fun q M' h1 => ?_)
  obtain ⟨e1, e2⟩ := h1
  rw [e1, e2]
  exact kk M hO
theorem GS.undo1 (X : Cx p s m meth c args cc nL own ret D) {r0 : xR} (hO : Ob kd rf a M r (r0 :: h) sn) {idx : Nat} {rest : List Value} (ml : ML own idx yX5_undo) (pc' : Nat) (hd : decode cc pc = .ok (.invokevirtual idx, 3)) (hp : pc + 3 = pc')  (hR : 3 + 1 ≤ R.frames ∧ 8 + (1 + 11) + 40 * 3 ≤ R.locals) (hf : cells ≤ R.cells ∧ slots ≤ R.slots) (hw : (rest.map fun v => v.category).sum ≤ 8)
    (kk : ∀ M', Ob kd rf a M' r0 h sn → G p l e R s m args below meth c D Bs nL cells slots Q sz kd rf M' pc' ls (vi ((h.length : Int)) :: rest)) : G p l e R s m args below meth c D Bs nL cells slots Q sz kd rf M pc ls (.ref a :: rest) := by
  obtain ⟨hX, hI, hC⟩ := id hO
  refine G.vI0 (d := 3) X ml yv_X5_undo pc' hd hp (c_X5_undo1 l D Bs sz kd rf M a r r0 h sn [] hX (hI.2.1 r0 List.mem_cons_self).1 ⟨fun q hq => hI.cb.1 q (List.mem_cons_of_mem _ hq), hI.cb.2⟩ hC) ⟨_, _, hX.1, rfl, rfl⟩ hR hf hw (fun q M' h1 => ?_)
  obtain ⟨e1, C1, -⟩ := h1
  rw [e1]
  exact kk M' ⟨hX, ⟨hI.2.1 r0 List.mem_cons_self, fun q hq => hI.2.1 q (List.mem_cons_of_mem _ hq), hI.2.2.1, by have := hI.2.2.2; rw [List.length_cons] at this; omega⟩, C1⟩
theorem GS.keep (X : Cx p s m meth c args cc nL own ret D) (hO : Ob kd rf a M r h sn) {idx : Nat} {rest : List Value} (ml : ML own idx yX5_keep) (pc' : Nat) (hd : decode cc pc = .ok (.invokevirtual idx, 3)) (hp : pc + 3 = pc')  (hR : 2 + 1 ≤ R.frames ∧ 8 + (1 + 11) + 40 * 2 ≤ R.locals) (hf : cells ≤ R.cells ∧ slots ≤ R.slots) (hw : (rest.map fun v => v.category).sum ≤ 8)
    (kk : ∀ M', Ob kd rf a M' r h (some r) → G p l e R s m args below meth c D Bs nL cells slots Q sz kd rf M' pc' ls (vi (r 0) :: rest)) : G p l e R s m args below meth c D Bs nL cells slots Q sz kd rf M pc ls (.ref a :: rest) := by
  obtain ⟨hX, hI, hC⟩ := id hO
  refine G.vI0 (d := 2) X ml yv_X5_keep pc' hd hp (c_X5_keep l D Bs sz kd rf M a r h sn [] hX hI.1.1 hI.cb hC) ⟨_, _, hX.1, rfl, rfl⟩ hR hf hw (fun q M' h1 => ?_)
  obtain ⟨e1, C1, -⟩ := h1
  rw [e1]
  exact kk M' ⟨hX, ⟨hI.1, hI.2.1, fun q hq => by cases hq; exact hI.1, hI.2.2.2⟩, C1⟩
theorem GS.restore0 (X : Cx p s m meth c args cc nL own ret D) (hO : Ob kd rf a M r h none) {idx : Nat} {rest : List Value} (ml : ML own idx yX5_restore) (pc' : Nat) (hd : decode cc pc = .ok (.invokevirtual idx, 3)) (hp : pc + 3 = pc')  (hR : 3 + 1 ≤ R.frames ∧ 8 + (1 + 11) + 40 * 3 ≤ R.locals) (hf : cells ≤ R.cells ∧ slots ≤ R.slots) (hw : (rest.map fun v => v.category).sum ≤ 8)
    (kk : ∀ M', Ob kd rf a M' r h none → G p l e R s m args below meth c D Bs nL cells slots Q sz kd rf M' pc' ls (vi (-5) :: rest)) : G p l e R s m args below meth c D Bs nL cells slots Q sz kd rf M pc ls (.ref a :: rest) := by
  obtain ⟨hX, hI, hC⟩ := id hO
  refine G.vI0 (d := 3) X ml yv_X5_restore pc' hd hp (c_X5_restore0 l D Bs sz kd rf M a r h [] hX hC) ⟨_, _, hX.1, rfl, rfl⟩ hR hf hw (fun q M' h1 => ?_)
  obtain ⟨e1, e2⟩ := h1
  rw [e1, e2]
  exact kk M hO
theorem GS.restore1 (X : Cx p s m meth c args cc nL own ret D) {r0 : xR} (hO : Ob kd rf a M r h (some r0)) {idx : Nat} {rest : List Value} (ml : ML own idx yX5_restore) (pc' : Nat) (hd : decode cc pc = .ok (.invokevirtual idx, 3)) (hp : pc + 3 = pc')  (hR : 3 + 1 ≤ R.frames ∧ 8 + (1 + 11) + 40 * 3 ≤ R.locals) (hf : cells ≤ R.cells ∧ slots ≤ R.slots) (hw : (rest.map fun v => v.category).sum ≤ 8)
    (kk : ∀ M', Ob kd rf a M' r0 ((r :: h).take 5) (some r0) → G p l e R s m args below meth c D Bs nL cells slots Q sz kd rf M' pc' ls (vi (r0 0) :: rest)) : G p l e R s m args below meth c D Bs nL cells slots Q sz kd rf M pc ls (.ref a :: rest) := by
  obtain ⟨hX, hI, hC⟩ := id hO
  refine G.vI0 (d := 3) X ml yv_X5_restore pc' hd hp (c_X5_restore1 l D Bs sz kd rf M a r r0 h [] hX hI.1.1 (hI.2.2.1 r0 rfl).1 hI.cb hC) ⟨_, _, hX.1, rfl, rfl⟩ hR hf hw (fun q M' h1 => ?_)
  obtain ⟨e1, C1, -⟩ := h1
  rw [e1]
  exact kk M' ⟨hX, hI.act (hI.2.2.1 r0 rfl), C1⟩
theorem GS.low (X : Cx p s m meth c args cc nL own ret D) {idx : Nat} {x n : Int} {rest : List Value} (ml : ML own idx yL_low) (pc' : Nat) (hd : decode cc pc = .ok (.invokestatic idx, 3)) (hp : pc + 3 = pc') (hn : 0 < n ∧ n ≤ 2147483647) (hR : 0 + 1 ≤ R.frames ∧ 8 + (2 + 11) + 40 * 0 ≤ R.locals) (hf : cells ≤ R.cells ∧ slots ≤ R.slots) (hw : (rest.map fun v => v.category).sum ≤ 8)
    (kk : ∀ j : Nat, (j : Int) < n → G p l e R s m args below meth c D Bs nL cells slots Q sz kd rf M pc' ls (vi (j : Int) :: rest)) : G p l e R s m args below meth c D Bs nL cells slots Q sz kd rf M pc ls (vi n :: vi x :: rest) := by
  refine G.sI2 (d := 0) X ml ys_L_low pc' hd hp (c_L_low l D Bs sz kd rf M x n hn) hR hf hw (fun q M' h1 => ?_)
  obtain ⟨⟨j, e1, hj⟩, e2⟩ := h1
  rw [e1, e2]
  exact kk j hj
theorem GS.cell (X : Cx p s m meth c args cc nL own ret D) {idx : Nat} {k : Int} {rest : List Value} {b L : Nat} {xs : Nat → Int32} (hX : va_X b L xs s s.heap) (hbl : b < s.heap.size) (hbB : b < Bs) (hL : L ≤ 260) (ml : ML own idx yL_cell) (pc' : Nat) (hd : decode cc pc = .ok (.invokestatic idx, 3)) (hp : pc + 3 = pc') (hk : 0 ≤ k ∧ k < 100) (hR : 0 + 1 ≤ R.frames ∧ 8 + (2 + 11) + 40 * 0 ≤ R.locals) (hf : cells ≤ R.cells ∧ slots ≤ R.slots) (hw : (rest.map fun v => v.category).sum ≤ 8)
    (kk : ∀ g : Int, IR g → G p l e R s m args below meth c D Bs nL cells slots Q sz kd rf M pc' ls (vi g :: rest)) : G p l e R s m args below meth c D Bs nL cells slots Q sz kd rf M pc ls (vi k :: .ref b :: rest) := by
  refine G.callSX X (As := [.ref b, vi k]) (rest := rest) (rm := rmd 0) hX hbl hbB ml ys_L_cell pc' hd hp (c_L_cell l D Bs sz kd rf M b L xs k hk hL hbB) rfl hR ⟨rfl, rfl⟩ hf hw (fun v sz' kd' rf' M' h => ?_)
  obtain ⟨rfl, rfl, rfl, q, rfl, h1, h2⟩ := h
  rw [h2]
  exact kk q h1
end GS
theorem cnt_0 {r : xR} {hl tl : Int} : cntF 0 r hl tl = r 0 := rfl
theorem cnt_1 {r : xR} {hl tl : Int} : cntF 1 r hl tl = r 1 + 100 := rfl
theorem cnt_2 {r : xR} {hl tl : Int} : cntF 2 r hl tl = r 2 := rfl
theorem cnt_3 {r : xR} {hl tl : Int} : cntF 3 r hl tl = r 3 := rfl
theorem cnt_4 {r : xR} {hl tl : Int} : cntF 4 r hl tl = sumN (fun i => fS r i 4) (nS r) := rfl
theorem cnt_5 {r : xR} {hl tl : Int} : cntF 5 r hl tl = r 4 := rfl
theorem cnt_6 {r : xR} {hl tl : Int} : cntF 6 r hl tl = r 5 := rfl
theorem cnt_7 {r : xR} {hl tl : Int} : cntF 7 r hl tl = r 6 := rfl
theorem cnt_8 {r : xR} {hl tl : Int} : cntF 8 r hl tl = yardZ r (nS r) := rfl
theorem cnt_9 {r : xR} {hl tl : Int} : cntF 9 r hl tl = r 7 := rfl
theorem cnt_10 {r : xR} {hl tl : Int} : cntF 10 r hl tl = ((needL r).length : Int) := rfl
theorem cnt_11 {r : xR} {hl tl : Int} : cntF 11 r hl tl = r 8 := rfl
theorem cnt_12 {r : xR} {hl tl : Int} : cntF 12 r hl tl = r 9 := rfl
theorem cnt_13 {r : xR} {hl tl : Int} : cntF 13 r hl tl = r 10 := rfl
theorem cnt_14 {r : xR} {hl tl : Int} : cntF 14 r hl tl = r 11 := rfl
theorem cnt_15 {r : xR} {hl tl : Int} : cntF 15 r hl tl = hl := rfl
theorem cnt_17 {r : xR} {hl tl : Int} : cntF 17 r hl tl = -2 := rfl
theorem set_0 {r : xR} {i : Nat} (hi : (i : Int) < r 6) : setF (i : Int) 0 r = fS r i 0 := by
  unfold setF
  rw [if_neg (by omega), Int.toNat_natCast]
  rfl
theorem set_1 {r : xR} {i : Nat} (hi : (i : Int) < r 6) : setF (i : Int) 1 r = fS r i 1 := by
  unfold setF
  rw [if_neg (by omega), Int.toNat_natCast]
  rfl
theorem set_2 {r : xR} {i : Nat} (hi : (i : Int) < r 6) : setF (i : Int) 2 r = fS r i 2 := by
  unfold setF
  rw [if_neg (by omega), Int.toNat_natCast]
  rfl
theorem set_3 {r : xR} {i : Nat} (hi : (i : Int) < r 6) : setF (i : Int) 3 r = fS r i 3 := by
  unfold setF
  rw [if_neg (by omega), Int.toNat_natCast]
  rfl
theorem set_4 {r : xR} {i : Nat} (hi : (i : Int) < r 6) : setF (i : Int) 4 r = fS r i 4 := by
  unfold setF
  rw [if_neg (by omega), Int.toNat_natCast]
  rfl
theorem set_5z {r : xR} {i : Nat} (hi : (i : Int) < r 6) (h5 : fS r i 5 = 0) : setF (i : Int) 5 r = -5 := by
  unfold setF
  rw [if_neg (by omega), Int.toNat_natCast]
  simp [h5]
theorem set_5p {r : xR} {i j : Nat} (hi : (i : Int) < r 6) (h5 : fS r i 5 = (j : Int) + 1) : setF (i : Int) 5 r = (j : Int) := by
  unfold setF
  rw [if_neg (by omega), Int.toNat_natCast, h5]
  simp
  omega
theorem set_6 {r : xR} {i : Nat} (hi : (i : Int) < r 6) : setF (i : Int) 6 r = fS r i 6 := by
  unfold setF
  rw [if_neg (by omega), Int.toNat_natCast]
  rfl
theorem set_7 {r : xR} {i : Nat} (hi : (i : Int) < r 6) : setF (i : Int) 7 r = fS r i 7 := by
  unfold setF
  rw [if_neg (by omega), Int.toNat_natCast]
  rfl
theorem set_8 {r : xR} {i : Nat} (hi : (i : Int) < r 6) : setF (i : Int) 8 r = fS r i 8 := by
  unfold setF
  rw [if_neg (by omega), Int.toNat_natCast]
  rfl
theorem set_9 {r : xR} {i : Nat} (hi : (i : Int) < r 6) : setF (i : Int) 9 r = hoursL r i := by
  unfold setF
  rw [if_neg (by omega), Int.toNat_natCast]
  rfl
theorem set_no {r : xR} {x y : Int} (hx : ¬ (0 ≤ x ∧ x < r 6)) : setF x y r = -1 := if_pos hx
theorem sit_0 {r : xR} {i : Nat} (hi : (i : Int) < r 7) : sitF (i : Int) 0 r = fC r i 0 := by
  unfold sitF
  rw [if_neg (by omega), Int.toNat_natCast]
  rfl
theorem sit_1 {r : xR} {i : Nat} (hi : (i : Int) < r 7) : sitF (i : Int) 1 r = fC r i 1 := by
  unfold sitF
  rw [if_neg (by omega), Int.toNat_natCast]
  rfl
theorem sit_2 {r : xR} {i : Nat} (hi : (i : Int) < r 7) : sitF (i : Int) 2 r = fC r i 2 := by
  unfold sitF
  rw [if_neg (by omega), Int.toNat_natCast]
  rfl
theorem sit_3 {r : xR} {i : Nat} (hi : (i : Int) < r 7) : sitF (i : Int) 3 r = fC r i 3 := by
  unfold sitF
  rw [if_neg (by omega), Int.toNat_natCast]
  rfl
theorem sit_4z {r : xR} {i : Nat} (hi : (i : Int) < r 7) (h5 : fC r i 4 = 0) : sitF (i : Int) 4 r = -5 := by
  unfold sitF
  rw [if_neg (by omega), Int.toNat_natCast]
  simp [h5]
theorem sit_4p {r : xR} {i j : Nat} (hi : (i : Int) < r 7) (h5 : fC r i 4 = (j : Int) + 1) : sitF (i : Int) 4 r = (j : Int) := by
  unfold sitF
  rw [if_neg (by omega), Int.toNat_natCast, h5]
  simp
  omega
theorem sit_5 {r : xR} {i : Nat} (hi : (i : Int) < r 7) : sitF (i : Int) 5 r = fC r i 5 := by
  unfold sitF
  rw [if_neg (by omega), Int.toNat_natCast]
  rfl
theorem sit_6 {r : xR} {i : Nat} (hi : (i : Int) < r 7) : sitF (i : Int) 6 r = fC r i 6 := by
  unfold sitF
  rw [if_neg (by omega), Int.toNat_natCast]
  rfl
theorem sit_7 {r : xR} {i : Nat} (hi : (i : Int) < r 7) : sitF (i : Int) 7 r = fC r i 7 := by
  unfold sitF
  rw [if_neg (by omega), Int.toNat_natCast]
  rfl
theorem sit_8z {r : xR} {i : Nat} (hi : (i : Int) < r 7) (h8 : fC r i 8 = 0) : sitF (i : Int) 8 r = -5 := by
  unfold sitF
  rw [if_neg (by omega), Int.toNat_natCast]
  simp [h8]
theorem sit_8p {r : xR} {i : Nat} (hi : (i : Int) < r 7) (h8 : fC r i 8 ≠ 0) : sitF (i : Int) 8 r = fC r i 8 := by
  unfold sitF
  rw [if_neg (by omega), Int.toNat_natCast]
  simp [h8]
theorem sit_9t {r : xR} {i : Nat} (hi : (i : Int) < r 7) (ho : openB r i = true) : sitF (i : Int) 9 r = 1 := by
  unfold sitF
  rw [if_neg (by omega), Int.toNat_natCast]
  exact if_pos (openB_iff.mp ho)
theorem sit_9f {r : xR} {i : Nat} (hi : (i : Int) < r 7) (ho : ¬ openB r i = true) : sitF (i : Int) 9 r = 0 := by
  unfold sitF
  rw [if_neg (by omega), Int.toNat_natCast]
  exact if_neg (fun g => ho (openB_iff.mpr g))
theorem sit_no {r : xR} {x y : Int} (hx : ¬ (0 ≤ x ∧ x < r 7)) : sitF x y r = -1 := if_pos hx
theorem why_o {r : xR} {i : Nat} (hi : (i : Int) < r 7) (ho : openB r i = true) : whyF (i : Int) r = causeR r i := by
  unfold whyF
  rw [if_neg (by omega), Int.toNat_natCast, if_neg (fun g => g (openB_iff.mp ho))]
theorem why_c {r : xR} {i : Nat} (hi : (i : Int) < r 7) (ho : ¬ openB r i = true) : whyF (i : Int) r = -5 := by
  unfold whyF
  rw [if_neg (by omega), Int.toNat_natCast, if_pos (fun g => ho (openB_iff.mpr g))]
theorem nth_in {L : List Nat} {i j : Nat} (hi : i < L.length) (hj : L.getD i 0 = j) : nthF L (i : Int) = (j : Int) := by
  unfold nthF
  rw [if_neg (by omega), if_pos (by omega), Int.toNat_natCast, hj]
theorem nth_out {L : List Nat} {x : Int} (hx : (L.length : Int) ≤ x) : nthF L x = -5 := by
  unfold nthF
  rw [if_neg (by omega), if_neg (by omega)]
theorem nth_neg {L : List Nat} {x : Int} (hx : x < 0) : nthF L x = -2 := if_pos hx
