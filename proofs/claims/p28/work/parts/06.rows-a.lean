/-! ===== the world: cells at their addresses, ints in a memory (address, slot), references fixed ===== -/
def vi (a : Int) : Value := .int (Int32.ofInt a)
abbrev xD : Type := va_G × (Nat → ClassId)
abbrev xKd : Type := Nat → Option (Nat ⊕ (Nat × Nat))
abbrev xRf : Type := Nat → Nat → Option Value
abbrev xM : Type := Nat → Nat → Int
abbrev xPost : Type := Option Value → Nat → xKd → xRf → xM → Prop
def aty : Nat → FieldType := fun k => match k with
  | 0 => .int
  | 1 => .char
  | 2 => .object RX1
  | 3 => .object RX0
  | _ => .object RX4
def xT (D : xD) : List (ClassId × FieldType) := [(D.2 0, .int), (D.2 1, .char), (D.2 2, .object RX1), (D.2 3, .object RX0), (D.2 4, .object RX4)]
/-- the slots that are booleans -/
def isZ (ci k : Nat) : Bool := (ci == 1 && k == 6) || (ci == 5 && k == 3) || (ci == 6 && k == 4)
/-- one slot of a row; one row of a memory -/
def fu (r : Nat → Int) (k : Nat) (x : Int) : Nat → Int := fun j => if j = k then x else r j
def ms (M : xM) (a : Nat) (r : Nat → Int) : xM := fun a' => if a' = a then r else M a'
def mu (M : xM) (a k : Nat) (x : Int) : xM := ms M a (fu (M a) k x)
theorem fu_same {r : Nat → Int} {k : Nat} {x : Int} : fu r k x k = x := if_pos rfl
theorem fu_ne {r : Nat → Int} {k j : Nat} {x : Int} (h : j ≠ k) : fu r k x j = r j := if_neg h
theorem fu_at (r : Nat → Int) (k : Nat) (x : Int) (j : Nat) : fu r k x j = if j = k then x else r j := rfl
theorem ms_same {M : xM} {a : Nat} {r : Nat → Int} : ms M a r a = r := if_pos rfl
theorem ms_ne {M : xM} {a b : Nat} {r : Nat → Int} (h : b ≠ a) : ms M a r b = M b := if_neg h
theorem ms_at (M : xM) (a : Nat) (r : Nat → Int) (b : Nat) : ms M a r b = if b = a then r else M b := rfl
theorem ms_ms {M : xM} {a : Nat} {r r' : Nat → Int} : ms (ms M a r) a r' = ms M a r' := by
  funext b
  by_cases h : b = a
  · subst h
    rw [ms_same, ms_same]
  · rw [ms_ne h, ms_ne h, ms_ne h]
theorem ms_self {M : xM} {a : Nat} : ms M a (M a) = M := by
  funext b
  by_cases h : b = a
  · subst h
    rw [ms_same]
  · rw [ms_ne h]
theorem fu_fu {r : Nat → Int} {k : Nat} {x x' : Int} : fu (fu r k x) k x' = fu r k x' := by
  funext j
  by_cases h : j = k
  · subst h
    rw [fu_same, fu_same]
  · rw [fu_ne h, fu_ne h, fu_ne h]
def ru (rf : xRf) (a k : Nat) (v : Value) : xRf := fun a' k' => if a' = a ∧ k' = k then some v else rf a' k'
theorem mu_read (M : xM) (a k : Nat) (x : Int) (a' k' : Nat) : mu M a k x a' k' = if a' = a ∧ k' = k then x else M a' k' := by
  unfold mu ms fu
  by_cases h : a' = a
  · subst h
    simp
  · simp [h]
theorem mu_same {M : xM} {a k : Nat} {x : Int} : mu M a k x a k = x := by rw [mu_read, if_pos ⟨rfl, rfl⟩]
theorem mu_ne {M : xM} {a k : Nat} {x : Int} {a' k' : Nat} (h : a' ≠ a ∨ k' ≠ k) : mu M a k x a' k' = M a' k' := by
  rw [mu_read, if_neg]
  rintro ⟨h1, h2⟩
  rcases h with h | h
  · exact h h1
  · exact h h2
def xV (rf : xRf) (M : xM) (a k : Nat) : Value := (rf a k).getD (vi (M a k))
theorem xV_int {rf : xRf} {M : xM} {a k : Nat} (h : rf a k = none) : xV rf M a k = vi (M a k) := by simp [xV, h]
theorem xV_ref {rf : xRf} {M : xM} {a k : Nat} {v : Value} (h : rf a k = some v) : xV rf M a k = v := by simp [xV, h]
theorem xV_mu {rf : xRf} {M : xM} {a k : Nat} {x : Int} (h : rf a k = none) : xV rf (mu M a k x) a = updV (xV rf M a) k (vi x) := by
  funext j
  by_cases hj : j = k
  · subst hj
    simp [xV, h, mu_read, updV]
  · simp [xV, mu_read, updV, hj]
theorem xV_mu_ne {rf : xRf} {M : xM} {a k b : Nat} {x : Int} (h : b ≠ a) : xV rf (mu M a k x) b = xV rf M b := by
  funext j
  simp [xV, mu_read, h]
theorem xV_ru {rf : xRf} {M : xM} {a k : Nat} {v : Value} : xV (ru rf a k v) M a = updV (xV rf M a) k v := by
  funext j
  by_cases hj : j = k
  · subst hj
    simp [xV, ru, updV]
  · simp [xV, ru, updV, hj]
theorem xV_ru_ne {rf : xRf} {M : xM} {a k b : Nat} {v : Value} (h : b ≠ a) : xV (ru rf a k v) M b = xV rf M b := by
  funext j
  simp [xV, ru, h]
def xCell (D : xD) (k : Nat ⊕ (Nat × Nat)) (a : Nat) (V : Nat → Value) (H : Heap) : Prop := match k with
  | .inl ci => ∃ r : vw_C, vwCl[ci]? = some r ∧ t_OB a (D.1.1 ci) r.2.2 (D.1.2 ci) H V
  | .inr q => H[a]? = some (arrV (D.2 q.1) q.2 V)
theorem xCell.kept {D : xD} {k : Nat ⊕ (Nat × Nat)} {a : Nat} {V : Nat → Value} {H H1 : Heap} (h : xCell D k a V H) (h1 : H1[a]? = H[a]?) : xCell D k a V H1 := by
  cases k with
  | inl ci =>
    obtain ⟨r, hr, ho⟩ := h
    exact ⟨r, hr, ho.kept h1⟩
  | inr q => exact h1.trans h
theorem xCell.lt {D : xD} {k : Nat ⊕ (Nat × Nat)} {a : Nat} {V : Nat → Value} {H : Heap} (h : xCell D k a V H) : a < H.size := by
  cases k with
  | inl ci =>
    obtain ⟨r, hr, cell, ho, -⟩ := h
    exact (Array.getElem?_eq_some_iff.mp ho).1
  | inr q => exact (Array.getElem?_eq_some_iff.mp h).1
def xOk (kd : xKd) (M : xM) : Prop := (∀ a ci k, kd a = some (.inl ci) → isZ ci k = true → M a k = 0 ∨ M a k = 1) ∧ ∀ a n j, kd a = some (.inr (1, n)) → 0 ≤ M a j ∧ M a j < 65536
def Wd (D : xD) (Bs sz : Nat) (kd : xKd) (rf : xRf) (M : xM) (H : Heap) : Prop := H.size = sz ∧ Bs ≤ sz ∧ (∀ a k, kd a = some k → Bs ≤ a ∧ xCell D k a (xV rf M a) H) ∧ xOk kd M
def xK (D : xD) (U : State) : Prop := va_K D.1 vwCl (xT D) U ∧ (∀ w ∈ nw, va_Nw w U) ∧ va_AO RX1 U ∧ va_AO RX0 U ∧ va_AO RX4 U
theorem nw_tab {w : Cond} (h : w ∈ nw) : w.onTables = true := by
  have h2 := (List.mem_filter.mp h).2
  cases w <;> first | rfl | cases h2
theorem xK.warm {D : xD} {s U : State} (hW : s.WarmedH U.vm) (h : xK D s) : xK D U := by
  obtain ⟨h1, h2, h3, h4, h5⟩ := h
  refine ⟨va_K.moved hW.alike h1, fun w hw => ?_, va_AO.moved hW.alike h3, va_AO.moved hW.alike h4, va_AO.moved hW.alike h5⟩
  have hz := h2 w hw
  have hi := (List.mem_filter.mp hw).2
  cases w <;> first | exact va_Nw.warmF hW hz | exact va_Nw.warmM hW hz | cases hi
theorem xK.same {D : xD} {s U : State} (hv : s.vm = U.vm) (h : xK D s) : xK D U := by
  obtain ⟨h1, h2, h3, h4, h5⟩ := h
  have ha : s.vm.Alike U.vm := by rw [hv]; exact Vm.Alike.refl _
  exact ⟨va_K.moved ha h1, fun w hw => va_Nw.same (nw_tab hw) hv (h2 w hw), va_AO.moved ha h3, va_AO.moved ha h4, va_AO.moved ha h5⟩
/-- what stands of a method's frame, all the way -/
def Cx (p : Program) (s : State) (m : MethodId) (meth : Method) (c : Code) (args : Array Value) (cc : ByteArray) (nL : Nat) (own : String) (ret : Option FieldType) (D : xD) : Prop :=
  p.tables.exec = Jvm.exec ∧ c.code = cc ∧ c.maxLocals = nL ∧ s.vm.findClass own = some m.cls ∧ (∀ w ∈ gw, w.before args s = true) ∧ xK D s ∧ meth.sig.returnType = ret ∧ meth.locks = false
def lvl : Nat → List (Option Value) → List (Nat × Value)
  | _, [] => []
  | k, none :: t => lvl (k + 1) t
  | k, some v :: t => (k, v) :: lvl (k + 1) t
theorem lvl_of : ∀ {ls : List (Option Value)} {k : Nat} {q : Nat × Value}, q ∈ lvl k ls → ∃ i, q.1 = k + i ∧ ls[i]? = some (some q.2)
  | [], _, _, h => by simp [lvl] at h
  | none :: t, k, q, h => by
    obtain ⟨i, h1, h2⟩ := lvl_of (ls := t) (k := k + 1) h
    exact ⟨i + 1, by omega, by simpa using h2⟩
  | some v :: t, k, q, h => by
    rcases List.mem_cons.mp h with h | h
    · subst h
      exact ⟨0, rfl, rfl⟩
    · obtain ⟨i, h1, h2⟩ := lvl_of (ls := t) (k := k + 1) h
      exact ⟨i + 1, by omega, by simpa using h2⟩
theorem lvl_in : ∀ {ls : List (Option Value)} {k i : Nat} {v : Value}, ls[i]? = some (some v) → (k + i, v) ∈ lvl k ls
  | [], _, _, _, h => by simp at h
  | none :: t, k, 0, v, h => by simp at h
  | none :: t, k, i + 1, v, h => by
    have := lvl_in (ls := t) (k := k + 1) (i := i) (v := v) (by simpa using h)
    rw [show k + (i + 1) = k + 1 + i by omega]
    exact this
  | some w :: t, k, 0, v, h => by
    simp at h
    subst h
    exact List.mem_cons_self
  | some w :: t, k, i + 1, v, h => by
    have := lvl_in (ls := t) (k := k + 1) (i := i) (v := v) (by simpa using h)
    rw [show k + (i + 1) = k + 1 + i by omega]
    exact List.mem_cons_of_mem _ this
/-- no long begins just before place i -/
def noL (ls : List (Option Value)) (i : Nat) : Bool := match i with
  | 0 => true
  | k + 1 => match ls[k]? with
    | some (some w) => w.category == 1
    | _ => true
def Lh (la : Array Slot) (nL : Nat) (ls : List (Option Value)) : Prop := lv_has la nL (lvl 0 ls) ∧ True
theorem Lh.get {la : Array Slot} {nL i : Nat} {ls : List (Option Value)} {v : Value} (h : Lh la nL ls) (hi : ls[i]? = some (some v)) : la[i]? = some (.val v) := by
  have := h.1.2.2 _ (lvl_in (k := 0) hi)
  simpa using this
theorem Lh.set {la la' : Array Slot} {nL i : Nat} {ls : List (Option Value)} {v : Value} (h : Lh la nL ls) (hz : noL ls i = true) (h' : lv_has la' nL ((i, v) :: (lvl 0 ls).filter (fun q => !(q.1 == i) && !(q.1 + 1 == i && q.2.category == 2)))) : Lh la' nL (ls.set i (some v)) := by
  refine ⟨⟨h'.1, h'.2.1, fun q hq => ?_⟩, trivial⟩
  obtain ⟨j, h1, h2⟩ := lvl_of hq
  have e : q.1 = j := by omega
  by_cases hj : j = i
  · subst hj
    rw [List.getElem?_set] at h2
    simp at h2
    have h3 := h'.2.2 (j, v) List.mem_cons_self
    rw [e, ← h2.2]
    exact h3
  · rw [List.getElem?_set_ne (Ne.symm hj)] at h2
    have h3 := lvl_in (k := 0) h2
    have h4 : ¬ (j + 1 = i ∧ q.2.category = 2) := by
      rintro ⟨g1, g2⟩
      subst g1
      unfold noL at hz
      simp only [h2] at hz
      rw [g2] at hz
      cases hz
    have h5 := h'.2.2 (0 + j, q.2) (List.mem_cons_of_mem _ (List.mem_filter.mpr ⟨h3, by
      simp [hj]
      by_cases g : j + 1 = i
      · exact Or.inr (fun g2 => h4 ⟨g, g2⟩)
      · exact Or.inl g⟩))
    rw [e]
    simpa using h5
/-- the machine at pc, over the world, with locals ls and stack st: it comes to a state with Q -/
def G (p : Program) (l : Launch) (e : Env) (R : Room) (s : State) (m : MethodId) (args : Array Value) (below : List Frame) (meth : Method) (c : Code) (D : xD) (Bs nL cells slots : Nat) (Q : State → Prop) (sz : Nat) (kd : xKd) (rf : xRf) (M : xM) (pc : Nat) (ls : List (Option Value)) (st : List Value) : Prop :=
  ∀ (H : Heap) (locs : List Loc) (la : Array Slot), Wd D Bs sz kd rf M H → va_S (fun q => Bs ≤ q) s.heap H locs → Lh la nL ls → W p l e R s m args below meth c H locs cells slots Q (F0 m pc la st)
/-- a contract: its end, its start -/
def xQ (D : xD) (Bs : Nat) (post : xPost) : Array Value → State → Outcome → State → Prop := fun _ st oc t => (∃ v sz' kd' rf' M', oc = .returned v ∧ post v sz' kd' rf' M' ∧ Wd D Bs sz' kd' rf' M' t.heap) ∧ va_F (fun q => Bs ≤ q) st t
def xP (D : xD) (Bs : Nat) (as : List Value) (sz : Nat) (kd : xKd) (rf : xRf) (M : xM) : Array Value → State → Prop := va_Pc as (fun U => Wd D Bs sz kd rf M U.heap ∧ xK D U)
def Ctr (l : Launch) (D : xD) (Bs : Nat) (y : MethodName) (b : ByteArray) (n : Nat) (ret : Option FieldType) (rm : Room) (as : List Value) (sz : Nat) (kd : xKd) (rf : xRf) (M : xM) (mc ms : Nat) (post : xPost) : Prop :=
  Met l y (Cond.code y b n ret :: gw) rm (xP D Bs as sz kd rf M) (xQ D Bs post) mc ms (fun q => Bs ≤ q)
def rmd (d : Nat) : Room := { frames := d, cells := 0, slots := 0, locals := 40 * d }
def rmc (d c n : Nat) : Room := { frames := d, cells := c, slots := n, locals := 40 * d }
abbrev pI (sz : Nat) (kd : xKd) (rf : xRf) (P : Int → xM → Prop) : xPost := fun v sz' kd' rf' M' => sz' = sz ∧ kd' = kd ∧ rf' = rf ∧ ∃ r, v = some (vi r) ∧ P r M'
abbrev pV (sz : Nat) (kd : xKd) (rf : xRf) (P : xM → Prop) : xPost := fun v sz' kd' rf' M' => sz' = sz ∧ kd' = kd ∧ rf' = rf ∧ v = none ∧ P M'
abbrev pR (sz : Nat) (kd : xKd) (rf : xRf) (P : Value → xM → Prop) : xPost := fun v sz' kd' rf' M' => sz' = sz ∧ kd' = kd ∧ rf' = rf ∧ ∃ r, v = some r ∧ P r M'
abbrev CtI (l : Launch) (D : xD) (Bs : Nat) (y : MethodName) (b : ByteArray) (n : Nat) (ret : Option FieldType) (d : Nat) (as : List Value) (sz : Nat) (kd : xKd) (rf : xRf) (M : xM) (P : Int → xM → Prop) : Prop := Ctr l D Bs y b n ret (rmd d) as sz kd rf M 0 0 (pI sz kd rf P)
abbrev CtV (l : Launch) (D : xD) (Bs : Nat) (y : MethodName) (b : ByteArray) (n : Nat) (ret : Option FieldType) (d : Nat) (as : List Value) (sz : Nat) (kd : xKd) (rf : xRf) (M : xM) (P : xM → Prop) : Prop := Ctr l D Bs y b n ret (rmd d) as sz kd rf M 0 0 (pV sz kd rf P)
abbrev CtR (l : Launch) (D : xD) (Bs : Nat) (y : MethodName) (b : ByteArray) (n : Nat) (ret : Option FieldType) (d : Nat) (as : List Value) (sz : Nat) (kd : xKd) (rf : xRf) (M : xM) (P : Value → xM → Prop) : Prop := Ctr l D Bs y b n ret (rmd d) as sz kd rf M 0 0 (pR sz kd rf P)
theorem xP_blind {D : xD} {Bs : Nat} {as : List Value} {sz : Nat} {kd : xKd} {rf : xRf} {M : xM} : FrameBlind (xP D Bs as sz kd rf M) := fun a U g mk h => ⟨h.1, h.2.1, xK.same (s := U) (U := U.calling g mk a) rfl h.2.2⟩
theorem gw_cons {y : MethodName} {b : ByteArray} {n : Nat} {ret : Option FieldType} (h : Cond.code y b n ret ∈ gw) : GoodIn gw (Cond.code y b n ret :: gw) := fun w hw => by
  rcases List.mem_cons.mp hw with e | h2
  · subst e
    exact ⟨h, gw_good h⟩
  · exact ⟨h2, gw_good h2⟩
theorem lvl_nones (k j : Nat) : lvl k (List.replicate j none) = [] := by
  induction j generalizing k with
  | zero => rfl
  | succ j ih => exact ih (k + 1)
theorem lvl_args : ∀ (as : List Value) (k j : Nat), (∀ v ∈ as, v.category = 1) → lvl k (as.map some ++ List.replicate j none) = lv_args k as
  | [], k, j, _ => lvl_nones k j
  | v :: t, k, j, h => by
    have hv : v.category = 1 := h v List.mem_cons_self
    show (k, v) :: lvl (k + 1) (t.map some ++ List.replicate j none) = (k, v) :: lv_args (if v.category = 2 then k + 2 else k + 1) t
    rw [lvl_args t (k + 1) j (fun w hw => h w (List.mem_cons_of_mem _ hw)), if_neg (by omega)]
set_option maxHeartbeats 1000000 in
theorem Ctr.of {l : Launch} {D : xD} {Bs : Nat} {y : MethodName} {b : ByteArray} {n : Nat} {ret : Option FieldType} {rm : Room} {as : List Value} {sz : Nat} {kd : xKd} {rf : xRf} {M : xM} {mc ms : Nat} {post : xPost} (hpl : plainName y.cls = true) (hc1 : ∀ v ∈ as, v.category = 1) (hen : (lg_sl as).length ≤ n) (ls0 : List (Option Value)) (hls : as.map some ++ List.replicate (n - as.length) none = ls0)
    (body : ∀ (p : Program) (e : Env) (s : State) (m : MethodId) (args : Array Value) (below : List Frame) (meth : Method) (c : Code), Cx p s m meth c args b n y.cls ret D → (y.name = "<init>" → meth.name = "<init>") → G p l e rm s m args below meth c D Bs n 0 0 (MQ below (xQ D Bs post) args s mc ms (fun q => Bs ≤ q)) sz kd rf M 0 ls0 []) :
    Ctr l D Bs y b n ret rm as sz kd rf M mc ms post := by
  refine Met.ofW (cc := b) (maxL := n) (ret := ret) hpl rfl ?_
  intro p e s m args below meth c s₁ B hml hv
  obtain ⟨rfl, hW, hK⟩ := hv
  have hts := atoms_spec (ws := Cond.code y b n ret :: gw) B.pre
  have X : Cx p s m meth c as.toArray b n y.cls ret D := ⟨B.exec, B.bytes, hml, findClass_of_methodNamed B.named, fun w hw => hts w (List.mem_cons_of_mem _ hw), hK, B.returns, B.notSynchronized⟩
  have hg := body p e s m as.toArray below meth c X (fun h => (name_of_methodNamed B.named B.method).1.trans h)
  have hl := lv_entry as (n := n) hen
  rw [lg_entry_eq]
  refine hg s.heap [] _ hW va_S.rf ⟨?_, ?_⟩
  · rw [← hls, lvl_args as 0 _ hc1]
    exact hl
  · trivial
section GR
variable {p : Program} {l : Launch} {e : Env} {R : Room} {s : State} {m : MethodId} {args : Array Value} {below : List Frame} {meth : Method} {c : Code} {D : xD} {Bs nL cells slots : Nat} {Q : State → Prop} {sz : Nat} {kd : xKd} {rf : xRf} {M : xM} {cc : ByteArray} {own : String} {ret : Option FieldType} {pc : Nat} {ls : List (Option Value)} {st : List Value}
theorem vi_add (a b : Int) : Value.int (Int32.ofInt a + Int32.ofInt b) = vi (a + b) := by rw [vi, Int32.ofInt_add]
theorem vi_sub (a b : Int) : Value.int (Int32.ofInt a - Int32.ofInt b) = vi (a - b) := by rw [vi, Int32.ofInt_sub]
theorem vi_mul (a b : Int) : Value.int (Int32.ofInt a * Int32.ofInt b) = vi (a * b) := by rw [vi, Int32.ofInt_mul]
theorem vi_cat (a : Int) : (vi a).category = 1 := rfl
theorem oI_t {a : Int} (h : -2147483648 ≤ a ∧ a ≤ 2147483647) : (Int32.ofInt a).toInt = a := Int32.toInt_ofInt_of_le (by omega) (by omega)
theorem oI_lt {a b : Int} (ha : -2147483648 ≤ a ∧ a ≤ 2147483647) (hb : -2147483648 ≤ b ∧ b ≤ 2147483647) : Int32.ofInt a < Int32.ofInt b ↔ a < b := by rw [Int32.lt_iff_toInt_lt, oI_t ha, oI_t hb]
theorem oI_le {a b : Int} (ha : -2147483648 ≤ a ∧ a ≤ 2147483647) (hb : -2147483648 ≤ b ∧ b ≤ 2147483647) : Int32.ofInt a ≤ Int32.ofInt b ↔ a ≤ b := by rw [Int32.le_iff_toInt_le, oI_t ha, oI_t hb]
theorem oI_eq {a b : Int} (ha : -2147483648 ≤ a ∧ a ≤ 2147483647) (hb : -2147483648 ≤ b ∧ b ≤ 2147483647) : Int32.ofInt a = Int32.ofInt b ↔ a = b := by rw [← Int32.toInt_inj, oI_t ha, oI_t hb]
theorem oI_0 : (0 : Int32) = Int32.ofInt 0 := by decide
theorem oI_nat (n : Nat) : Int32.ofInt (n : Int) = nI n := Int32.ofInt_eq_ofNat
theorem vi_inj {a b : Int} (ha : -2147483648 ≤ a ∧ a ≤ 2147483647) (hb : -2147483648 ≤ b ∧ b ≤ 2147483647) (h : vi a = vi b) : a = b := (oI_eq ha hb).mp (Value.int.inj h)
theorem G.iconst (X : Cx p s m meth c args cc nL own ret D) {n : Int} (pc' : Nat) (hd : decode cc pc = .ok (.iconst n, 1)) (hp : pc + 1 = pc')
    (kk : G p l e R s m args below meth c D Bs nL cells slots Q sz kd rf M pc' ls (vi n :: st)) : G p l e R s m args below meth c D Bs nL cells slots Q sz kd rf M pc ls st := by
  intro H locs la hW hS hL
  subst hp
  exact lv_iconst X.1 X.2.1 hd rfl (kk H locs la hW hS hL)
theorem G.bipush (X : Cx p s m meth c args cc nL own ret D) {n : Int} (pc' : Nat) (hd : decode cc pc = .ok (.bipush n, 2)) (hp : pc + 2 = pc') (hn : (Int8.ofInt n).toInt32 = Int32.ofInt n)
    (kk : G p l e R s m args below meth c D Bs nL cells slots Q sz kd rf M pc' ls (vi n :: st)) : G p l e R s m args below meth c D Bs nL cells slots Q sz kd rf M pc ls st := by
  intro H locs la hW hS hL
  subst hp
  exact lv_bipush X.1 X.2.1 hd hn (kk H locs la hW hS hL)
theorem G.sipush (X : Cx p s m meth c args cc nL own ret D) {n : Int} (pc' : Nat) (hd : decode cc pc = .ok (.sipush n, 3)) (hp : pc + 3 = pc') (hn : (Int16.ofInt n).toInt32 = Int32.ofInt n)
    (kk : G p l e R s m args below meth c D Bs nL cells slots Q sz kd rf M pc' ls (vi n :: st)) : G p l e R s m args below meth c D Bs nL cells slots Q sz kd rf M pc ls st := by
  intro H locs la hW hS hL
  subst hp
  exact lv_sipush X.1 X.2.1 hd hn (kk H locs la hW hS hL)
theorem G.ldc (X : Cx p s m meth c args cc nL own ret D) {n : Int} {i : Nat} {v : Int32} (ko : Cond.constant own i v ∈ gw) (pc' : Nat) (hd : decode cc pc = .ok (.ldc i, 2)) (hp : pc + 2 = pc') (hn : v = Int32.ofInt n)
    (kk : G p l e R s m args below meth c D Bs nL cells slots Q sz kd rf M pc' ls (vi n :: st)) : G p l e R s m args below meth c D Bs nL cells slots Q sz kd rf M pc ls st := by
  intro H locs la hW hS hL
  subst hp
  subst hn
  exact lv_ldc X.1 X.2.1 X.2.2.2.1 (X.2.2.2.2.1 _ ko) hd (kk H locs la hW hS hL)
theorem G.iload_n (X : Cx p s m meth c args cc nL own ret D) {k : Fin 4} {a : Int} (pc' : Nat) (hd : decode cc pc = .ok (.iload_n k, 1)) (hp : pc + 1 = pc') (h : ls[(k : Nat)]? = some (some (vi a)))
    (kk : G p l e R s m args below meth c D Bs nL cells slots Q sz kd rf M pc' ls (vi a :: st)) : G p l e R s m args below meth c D Bs nL cells slots Q sz kd rf M pc ls st := by
  intro H locs la hW hS hL
  subst hp
  exact lv_iload_n X.1 X.2.1 hd rfl (hL.get h) (kk H locs la hW hS hL)
theorem G.iload (X : Cx p s m meth c args cc nL own ret D) {i : Nat} {a : Int} (pc' : Nat) (hd : decode cc pc = .ok (.iload i, 2)) (hp : pc + 2 = pc') (h : ls[i]? = some (some (vi a)))
    (kk : G p l e R s m args below meth c D Bs nL cells slots Q sz kd rf M pc' ls (vi a :: st)) : G p l e R s m args below meth c D Bs nL cells slots Q sz kd rf M pc ls st := by
  intro H locs la hW hS hL
  subst hp
  exact lv_iload X.1 X.2.1 hd (hL.get h) (kk H locs la hW hS hL)
theorem G.aload_n (X : Cx p s m meth c args cc nL own ret D) {k : Fin 4} {a : Nat} (pc' : Nat) (hd : decode cc pc = .ok (.aload_n k, 1)) (hp : pc + 1 = pc') (h : ls[(k : Nat)]? = some (some (.ref a)))
    (kk : G p l e R s m args below meth c D Bs nL cells slots Q sz kd rf M pc' ls (.ref a :: st)) : G p l e R s m args below meth c D Bs nL cells slots Q sz kd rf M pc ls st := by
  intro H locs la hW hS hL
  subst hp
  exact lv_aload_n X.1 X.2.1 hd rfl (hL.get h) (kk H locs la hW hS hL)
theorem G.aload (X : Cx p s m meth c args cc nL own ret D) {i : Nat} {a : Nat} (pc' : Nat) (hd : decode cc pc = .ok (.aload i, 2)) (hp : pc + 2 = pc') (h : ls[i]? = some (some (.ref a)))
    (kk : G p l e R s m args below meth c D Bs nL cells slots Q sz kd rf M pc' ls (.ref a :: st)) : G p l e R s m args below meth c D Bs nL cells slots Q sz kd rf M pc ls st := by
  intro H locs la hW hS hL
  subst hp
  exact lv_aload X.1 X.2.1 hd (hL.get h) (kk H locs la hW hS hL)
theorem G.aload_nN (X : Cx p s m meth c args cc nL own ret D) {k : Fin 4} (pc' : Nat) (hd : decode cc pc = .ok (.aload_n k, 1)) (hp : pc + 1 = pc') (h : ls[(k : Nat)]? = some (some .null))
    (kk : G p l e R s m args below meth c D Bs nL cells slots Q sz kd rf M pc' ls (.null :: st)) : G p l e R s m args below meth c D Bs nL cells slots Q sz kd rf M pc ls st := by
  intro H locs la hW hS hL
  subst hp
  exact lv_aload_nN X.1 X.2.1 hd rfl (hL.get h) (kk H locs la hW hS hL)
theorem G.aloadN (X : Cx p s m meth c args cc nL own ret D) {i : Nat} (pc' : Nat) (hd : decode cc pc = .ok (.aload i, 2)) (hp : pc + 2 = pc') (h : ls[i]? = some (some .null))
    (kk : G p l e R s m args below meth c D Bs nL cells slots Q sz kd rf M pc' ls (.null :: st)) : G p l e R s m args below meth c D Bs nL cells slots Q sz kd rf M pc ls st := by
  intro H locs la hW hS hL
  subst hp
  exact lv_aloadN X.1 X.2.1 hd (hL.get h) (kk H locs la hW hS hL)
theorem G.istore_n (X : Cx p s m meth c args cc nL own ret D) {k : Fin 4} {a : Int} {ls' : List (Option Value)} (pc' : Nat) (hd : decode cc pc = .ok (.istore_n k, 1)) (hp : pc + 1 = pc') (hn : (k : Nat) < nL) (hl : ls.set (k : Nat) (some (vi a)) = ls')
    (kk : G p l e R s m args below meth c D Bs nL cells slots Q sz kd rf M pc' ls' st) (hz : noL ls (k : Nat) = true := by rfl) : G p l e R s m args below meth c D Bs nL cells slots Q sz kd rf M pc ls ((vi a) :: st) := by
  intro H locs la hW hS hL
  subst hp
  subst hl
  exact lv_istore_n X.1 X.2.1 hd rfl hL.1 hn rfl (fun la' hl' => kk H locs la' hW hS (hL.set hz hl'))
theorem G.istore (X : Cx p s m meth c args cc nL own ret D) {i : Nat} {a : Int} {ls' : List (Option Value)} (pc' : Nat) (hd : decode cc pc = .ok (.istore i, 2)) (hp : pc + 2 = pc') (hn : i < nL) (hl : ls.set i (some (vi a)) = ls')
    (kk : G p l e R s m args below meth c D Bs nL cells slots Q sz kd rf M pc' ls' st) (hz : noL ls i = true := by rfl) : G p l e R s m args below meth c D Bs nL cells slots Q sz kd rf M pc ls ((vi a) :: st) := by
  intro H locs la hW hS hL
  subst hp
  subst hl
  exact lv_istore X.1 X.2.1 hd hL.1 hn rfl (fun la' hl' => kk H locs la' hW hS (hL.set hz hl'))
theorem G.astore_n (X : Cx p s m meth c args cc nL own ret D) {k : Fin 4} {a : Nat} {ls' : List (Option Value)} (pc' : Nat) (hd : decode cc pc = .ok (.astore_n k, 1)) (hp : pc + 1 = pc') (hn : (k : Nat) < nL) (hl : ls.set (k : Nat) (some (.ref a)) = ls')
    (kk : G p l e R s m args below meth c D Bs nL cells slots Q sz kd rf M pc' ls' st) (hz : noL ls (k : Nat) = true := by rfl) : G p l e R s m args below meth c D Bs nL cells slots Q sz kd rf M pc ls ((.ref a) :: st) := by
  intro H locs la hW hS hL
  subst hp
  subst hl
  exact lv_astore_n X.1 X.2.1 hd rfl hL.1 hn rfl (fun la' hl' => kk H locs la' hW hS (hL.set hz hl'))
theorem G.astore (X : Cx p s m meth c args cc nL own ret D) {i : Nat} {a : Nat} {ls' : List (Option Value)} (pc' : Nat) (hd : decode cc pc = .ok (.astore i, 2)) (hp : pc + 2 = pc') (hn : i < nL) (hl : ls.set i (some (.ref a)) = ls')
    (kk : G p l e R s m args below meth c D Bs nL cells slots Q sz kd rf M pc' ls' st) (hz : noL ls i = true := by rfl) : G p l e R s m args below meth c D Bs nL cells slots Q sz kd rf M pc ls ((.ref a) :: st) := by
  intro H locs la hW hS hL
  subst hp
  subst hl
  exact lv_astore X.1 X.2.1 hd hL.1 hn rfl (fun la' hl' => kk H locs la' hW hS (hL.set hz hl'))
theorem G.astore_nN (X : Cx p s m meth c args cc nL own ret D) {k : Fin 4} {ls' : List (Option Value)} (pc' : Nat) (hd : decode cc pc = .ok (.astore_n k, 1)) (hp : pc + 1 = pc') (hn : (k : Nat) < nL) (hl : ls.set (k : Nat) (some (.null)) = ls')
    (kk : G p l e R s m args below meth c D Bs nL cells slots Q sz kd rf M pc' ls' st) (hz : noL ls (k : Nat) = true := by rfl) : G p l e R s m args below meth c D Bs nL cells slots Q sz kd rf M pc ls ((.null) :: st) := by
  intro H locs la hW hS hL
  subst hp
  subst hl
  exact lv_astore_nN X.1 X.2.1 hd rfl hL.1 hn rfl (fun la' hl' => kk H locs la' hW hS (hL.set hz hl'))
theorem G.astoreN (X : Cx p s m meth c args cc nL own ret D) {i : Nat} {ls' : List (Option Value)} (pc' : Nat) (hd : decode cc pc = .ok (.astore i, 2)) (hp : pc + 2 = pc') (hn : i < nL) (hl : ls.set i (some (.null)) = ls')
    (kk : G p l e R s m args below meth c D Bs nL cells slots Q sz kd rf M pc' ls' st) (hz : noL ls i = true := by rfl) : G p l e R s m args below meth c D Bs nL cells slots Q sz kd rf M pc ls ((.null) :: st) := by
  intro H locs la hW hS hL
  subst hp
  subst hl
  exact lv_astoreN X.1 X.2.1 hd hL.1 hn rfl (fun la' hl' => kk H locs la' hW hS (hL.set hz hl'))
theorem G.iinc (X : Cx p s m meth c args cc nL own ret D) {i : Nat} {n a : Int} {ls' : List (Option Value)} (pc' : Nat) (hd : decode cc pc = .ok (.iinc i n, 3)) (hp : pc + 3 = pc') (h : ls[i]? = some (some (vi a))) (hn : i < nL) (hl : ls.set i (some (vi (a + n))) = ls')
    (kk : G p l e R s m args below meth c D Bs nL cells slots Q sz kd rf M pc' ls' st) (hz : noL ls i = true := by rfl) : G p l e R s m args below meth c D Bs nL cells slots Q sz kd rf M pc ls st := by
  intro H locs la hW hS hL
  subst hp
  subst hl
  obtain ⟨k, hk⟩ := List.getElem?_of_mem (lvl_in (k := 0) h)
  refine lv_iinc (k := k) (v := Int32.ofInt (a + n)) X.1 X.2.1 hd hL.1 (by rw [hk, Nat.zero_add]; rfl) (by rw [Int32.ofInt_add]) hn rfl (fun la' hl' => kk H locs la' hW hS (hL.set (v := vi (a + n)) hz hl'))
theorem G.dup (X : Cx p s m meth c args cc nL own ret D) {v : Value} (pc' : Nat) (hd : decode cc pc = .ok (.dup, 1)) (hp : pc + 1 = pc') (hc : v.category = 1)
    (kk : G p l e R s m args below meth c D Bs nL cells slots Q sz kd rf M pc' ls (v :: v :: st)) : G p l e R s m args below meth c D Bs nL cells slots Q sz kd rf M pc ls (v :: st) := by
  intro H locs la hW hS hL
  subst hp
  exact lv_dup X.1 X.2.1 hd hc (kk H locs la hW hS hL)
theorem G.pop (X : Cx p s m meth c args cc nL own ret D) {v : Value} (pc' : Nat) (hd : decode cc pc = .ok (.pop, 1)) (hp : pc + 1 = pc') (hc : v.category = 1)
    (kk : G p l e R s m args below meth c D Bs nL cells slots Q sz kd rf M pc' ls st) : G p l e R s m args below meth c D Bs nL cells slots Q sz kd rf M pc ls (v :: st) := by
  intro H locs la hW hS hL
  subst hp
  exact lv_pop X.1 X.2.1 hd hc (kk H locs la hW hS hL)
theorem G.dup2 (X : Cx p s m meth c args cc nL own ret D) {v w : Value} (pc' : Nat) (hd : decode cc pc = .ok (.dup2, 1)) (hp : pc + 1 = pc') (hc : v.category = 1) (hc2 : w.category = 1)
    (kk : G p l e R s m args below meth c D Bs nL cells slots Q sz kd rf M pc' ls (v :: w :: v :: w :: st)) : G p l e R s m args below meth c D Bs nL cells slots Q sz kd rf M pc ls (v :: w :: st) := by
  intro H locs la hW hS hL
  subst hp
  exact lv_dup2_11 X.1 X.2.1 hd hc hc2 (kk H locs la hW hS hL)
theorem G.null (X : Cx p s m meth c args cc nL own ret D) (pc' : Nat) (hd : decode cc pc = .ok (.aconst_null, 1)) (hp : pc + 1 = pc')
    (kk : G p l e R s m args below meth c D Bs nL cells slots Q sz kd rf M pc' ls (.null :: st)) : G p l e R s m args below meth c D Bs nL cells slots Q sz kd rf M pc ls st := by
  intro H locs la hW hS hL
  subst hp
  exact lv_null X.1 X.2.1 hd (kk H locs la hW hS hL)
theorem G.iadd (X : Cx p s m meth c args cc nL own ret D) {a b : Int} (pc' : Nat) (hd : decode cc pc = .ok (.iadd, 1)) (hp : pc + 1 = pc')
    (kk : G p l e R s m args below meth c D Bs nL cells slots Q sz kd rf M pc' ls (vi (a + b) :: st)) : G p l e R s m args below meth c D Bs nL cells slots Q sz kd rf M pc ls (vi b :: vi a :: st) := by
  intro H locs la hW hS hL
  subst hp
  refine lv_iadd X.1 X.2.1 hd ?_
  rw [vi_add]
  exact kk H locs la hW hS hL
theorem G.isub (X : Cx p s m meth c args cc nL own ret D) {a b : Int} (pc' : Nat) (hd : decode cc pc = .ok (.isub, 1)) (hp : pc + 1 = pc')
    (kk : G p l e R s m args below meth c D Bs nL cells slots Q sz kd rf M pc' ls (vi (a - b) :: st)) : G p l e R s m args below meth c D Bs nL cells slots Q sz kd rf M pc ls (vi b :: vi a :: st) := by
  intro H locs la hW hS hL
  subst hp
  refine lv_isub X.1 X.2.1 hd ?_
  rw [vi_sub]
  exact kk H locs la hW hS hL
theorem G.imul (X : Cx p s m meth c args cc nL own ret D) {a b : Int} (pc' : Nat) (hd : decode cc pc = .ok (.imul, 1)) (hp : pc + 1 = pc')
    (kk : G p l e R s m args below meth c D Bs nL cells slots Q sz kd rf M pc' ls (vi (a * b) :: st)) : G p l e R s m args below meth c D Bs nL cells slots Q sz kd rf M pc ls (vi b :: vi a :: st) := by
  intro H locs la hW hS hL
  subst hp
  refine lv_imul X.1 X.2.1 hd ?_
  rw [vi_mul]
  exact kk H locs la hW hS hL
theorem G.ineg (X : Cx p s m meth c args cc nL own ret D) {a : Int} (pc' : Nat) (hd : decode cc pc = .ok (.ineg, 1)) (hp : pc + 1 = pc')
    (kk : G p l e R s m args below meth c D Bs nL cells slots Q sz kd rf M pc' ls (vi (-a) :: st)) : G p l e R s m args below meth c D Bs nL cells slots Q sz kd rf M pc ls (vi a :: st) := by
  intro H locs la hW hS hL
  subst hp
  refine lv_ineg X.1 X.2.1 hd ?_
  have h0 := kk H locs la hW hS hL
  unfold vi at h0
  rw [Int32.ofInt_neg] at h0
  first | exact h0 | (rw [Int32.neg_eq_zero_sub] at h0; exact h0) | simpa using h0
theorem G.idiv (X : Cx p s m meth c args cc nL own ret D) {a b : Nat} (pc' : Nat) (hd : decode cc pc = .ok (.idiv, 1)) (hp : pc + 1 = pc') (ha : a < 2147483648) (hb : b < 2147483648) (h0 : 0 < b)
    (kk : G p l e R s m args below meth c D Bs nL cells slots Q sz kd rf M pc' ls (vi ((a / b : Nat) : Int) :: st)) : G p l e R s m args below meth c D Bs nL cells slots Q sz kd rf M pc ls (vi (b : Int) :: vi (a : Int) :: st) := by
  intro H locs la hW hS hL
  subst hp
  refine lv_idiv X.1 X.2.1 hd ?_ ?_
  · rw [oI_nat, oI_0]
    intro h
    have := (oI_eq (a := (b : Int)) (b := 0) (by omega) (by omega)).mp (by rw [oI_nat]; exact h)
    omega
  · rw [oI_nat, oI_nat, pk_div ha h0 hb, ← oI_nat]
    exact kk H locs la hW hS hL
theorem G.irem (X : Cx p s m meth c args cc nL own ret D) {a b : Nat} (pc' : Nat) (hd : decode cc pc = .ok (.irem, 1)) (hp : pc + 1 = pc') (ha : a < 2147483648) (hb : b < 2147483648) (h0 : 0 < b)
    (kk : G p l e R s m args below meth c D Bs nL cells slots Q sz kd rf M pc' ls (vi ((a % b : Nat) : Int) :: st)) : G p l e R s m args below meth c D Bs nL cells slots Q sz kd rf M pc ls (vi (b : Int) :: vi (a : Int) :: st) := by
  intro H locs la hW hS hL
  subst hp
  refine lv_irem X.1 X.2.1 hd ?_ ?_
  · rw [oI_nat, oI_0]
    intro h
    have := (oI_eq (a := (b : Int)) (b := 0) (by omega) (by omega)).mp (by rw [oI_nat]; exact h)
    omega
  · rw [oI_nat, oI_nat, pk_rem ha h0 hb, ← oI_nat]
    exact kk H locs la hW hS hL
theorem G.icmp_eq (X : Cx p s m meth c args cc nL own ret D) {a b off : Int} (tgt pc' : Nat) (hd : decode cc pc = .ok (.if_icmp .eq off, 3)) (ht : (pc : Int) + off = (tgt : Int)) (hp : pc + 3 = pc') (ra : -2147483648 ≤ a ∧ a ≤ 2147483647) (rb : -2147483648 ≤ b ∧ b ≤ 2147483647)
    (kt : a = b → G p l e R s m args below meth c D Bs nL cells slots Q sz kd rf M tgt ls st) (kf : ¬ (a = b) → G p l e R s m args below meth c D Bs nL cells slots Q sz kd rf M pc' ls st) : G p l e R s m args below meth c D Bs nL cells slots Q sz kd rf M pc ls (vi b :: vi a :: st) := by
  intro H locs la hW hS hL
  subst hp
  exact lv_icmp_eq X.1 X.2.1 hd ht (fun h => kt ((oI_eq ra rb).mp h) H locs la hW hS hL) (fun h => kf (fun q => h ((oI_eq ra rb).mpr q)) H locs la hW hS hL)
theorem G.icmp_ne (X : Cx p s m meth c args cc nL own ret D) {a b off : Int} (tgt pc' : Nat) (hd : decode cc pc = .ok (.if_icmp .ne off, 3)) (ht : (pc : Int) + off = (tgt : Int)) (hp : pc + 3 = pc') (ra : -2147483648 ≤ a ∧ a ≤ 2147483647) (rb : -2147483648 ≤ b ∧ b ≤ 2147483647)
    (kt : a ≠ b → G p l e R s m args below meth c D Bs nL cells slots Q sz kd rf M tgt ls st) (kf : ¬ (a ≠ b) → G p l e R s m args below meth c D Bs nL cells slots Q sz kd rf M pc' ls st) : G p l e R s m args below meth c D Bs nL cells slots Q sz kd rf M pc ls (vi b :: vi a :: st) := by
  intro H locs la hW hS hL
  subst hp
  exact lv_icmp_ne X.1 X.2.1 hd ht (fun h => kt ((not_congr (oI_eq ra rb)).mp h) H locs la hW hS hL) (fun h => kf (fun q => q ((oI_eq ra rb).mp h)) H locs la hW hS hL)
theorem G.icmp_lt (X : Cx p s m meth c args cc nL own ret D) {a b off : Int} (tgt pc' : Nat) (hd : decode cc pc = .ok (.if_icmp .lt off, 3)) (ht : (pc : Int) + off = (tgt : Int)) (hp : pc + 3 = pc') (ra : -2147483648 ≤ a ∧ a ≤ 2147483647) (rb : -2147483648 ≤ b ∧ b ≤ 2147483647)
    (kt : a < b → G p l e R s m args below meth c D Bs nL cells slots Q sz kd rf M tgt ls st) (kf : ¬ (a < b) → G p l e R s m args below meth c D Bs nL cells slots Q sz kd rf M pc' ls st) : G p l e R s m args below meth c D Bs nL cells slots Q sz kd rf M pc ls (vi b :: vi a :: st) := by
  intro H locs la hW hS hL
  subst hp
  exact lv_icmp_lt X.1 X.2.1 hd ht (fun h => kt ((oI_lt ra rb).mp h) H locs la hW hS hL) (fun h => kf (fun q => h ((oI_lt ra rb).mpr q)) H locs la hW hS hL)
theorem G.icmp_ge (X : Cx p s m meth c args cc nL own ret D) {a b off : Int} (tgt pc' : Nat) (hd : decode cc pc = .ok (.if_icmp .ge off, 3)) (ht : (pc : Int) + off = (tgt : Int)) (hp : pc + 3 = pc') (ra : -2147483648 ≤ a ∧ a ≤ 2147483647) (rb : -2147483648 ≤ b ∧ b ≤ 2147483647)
    (kt : b ≤ a → G p l e R s m args below meth c D Bs nL cells slots Q sz kd rf M tgt ls st) (kf : ¬ (b ≤ a) → G p l e R s m args below meth c D Bs nL cells slots Q sz kd rf M pc' ls st) : G p l e R s m args below meth c D Bs nL cells slots Q sz kd rf M pc ls (vi b :: vi a :: st) := by
  intro H locs la hW hS hL
  subst hp
  exact lv_icmp_ge X.1 X.2.1 hd ht (fun h => kt ((oI_le rb ra).mp h) H locs la hW hS hL) (fun h => kf (fun q => h ((oI_le rb ra).mpr q)) H locs la hW hS hL)
theorem G.icmp_gt (X : Cx p s m meth c args cc nL own ret D) {a b off : Int} (tgt pc' : Nat) (hd : decode cc pc = .ok (.if_icmp .gt off, 3)) (ht : (pc : Int) + off = (tgt : Int)) (hp : pc + 3 = pc') (ra : -2147483648 ≤ a ∧ a ≤ 2147483647) (rb : -2147483648 ≤ b ∧ b ≤ 2147483647)
    (kt : b < a → G p l e R s m args below meth c D Bs nL cells slots Q sz kd rf M tgt ls st) (kf : ¬ (b < a) → G p l e R s m args below meth c D Bs nL cells slots Q sz kd rf M pc' ls st) : G p l e R s m args below meth c D Bs nL cells slots Q sz kd rf M pc ls (vi b :: vi a :: st) := by
  intro H locs la hW hS hL
  subst hp
  exact lv_icmp_gt X.1 X.2.1 hd ht (fun h => kt ((oI_lt rb ra).mp h) H locs la hW hS hL) (fun h => kf (fun q => h ((oI_lt rb ra).mpr q)) H locs la hW hS hL)
theorem G.icmp_le (X : Cx p s m meth c args cc nL own ret D) {a b off : Int} (tgt pc' : Nat) (hd : decode cc pc = .ok (.if_icmp .le off, 3)) (ht : (pc : Int) + off = (tgt : Int)) (hp : pc + 3 = pc') (ra : -2147483648 ≤ a ∧ a ≤ 2147483647) (rb : -2147483648 ≤ b ∧ b ≤ 2147483647)
    (kt : a ≤ b → G p l e R s m args below meth c D Bs nL cells slots Q sz kd rf M tgt ls st) (kf : ¬ (a ≤ b) → G p l e R s m args below meth c D Bs nL cells slots Q sz kd rf M pc' ls st) : G p l e R s m args below meth c D Bs nL cells slots Q sz kd rf M pc ls (vi b :: vi a :: st) := by
  intro H locs la hW hS hL
  subst hp
  exact lv_icmp_le X.1 X.2.1 hd ht (fun h => kt ((oI_le ra rb).mp h) H locs la hW hS hL) (fun h => kf (fun q => h ((oI_le ra rb).mpr q)) H locs la hW hS hL)
theorem G.if_eq (X : Cx p s m meth c args cc nL own ret D) {a off : Int} (tgt pc' : Nat) (hd : decode cc pc = .ok (.ifCond .eq off, 3)) (ht : (pc : Int) + off = (tgt : Int)) (hp : pc + 3 = pc') (ra : -2147483648 ≤ a ∧ a ≤ 2147483647)
    (kt : a = 0 → G p l e R s m args below meth c D Bs nL cells slots Q sz kd rf M tgt ls st) (kf : ¬ (a = 0) → G p l e R s m args below meth c D Bs nL cells slots Q sz kd rf M pc' ls st) : G p l e R s m args below meth c D Bs nL cells slots Q sz kd rf M pc ls (vi a :: st) := by
  intro H locs la hW hS hL
  subst hp
  have Z0 : -2147483648 ≤ (0 : Int) ∧ (0 : Int) ≤ 2147483647 := by omega
  exact lv_if_eq X.1 X.2.1 hd ht (fun h => kt ((oI_eq ra Z0).mp (by rw [← oI_0]; exact h)) H locs la hW hS hL) (fun h => kf (fun q => h (by rw [oI_0]; exact (oI_eq ra Z0).mpr q)) H locs la hW hS hL)
theorem G.if_ne (X : Cx p s m meth c args cc nL own ret D) {a off : Int} (tgt pc' : Nat) (hd : decode cc pc = .ok (.ifCond .ne off, 3)) (ht : (pc : Int) + off = (tgt : Int)) (hp : pc + 3 = pc') (ra : -2147483648 ≤ a ∧ a ≤ 2147483647)
    (kt : a ≠ 0 → G p l e R s m args below meth c D Bs nL cells slots Q sz kd rf M tgt ls st) (kf : ¬ (a ≠ 0) → G p l e R s m args below meth c D Bs nL cells slots Q sz kd rf M pc' ls st) : G p l e R s m args below meth c D Bs nL cells slots Q sz kd rf M pc ls (vi a :: st) := by
  intro H locs la hW hS hL
  subst hp
  have Z0 : -2147483648 ≤ (0 : Int) ∧ (0 : Int) ≤ 2147483647 := by omega
  exact lv_if_ne X.1 X.2.1 hd ht (fun h => kt ((not_congr (oI_eq ra Z0)).mp (by rw [← oI_0]; exact h)) H locs la hW hS hL) (fun h => kf (fun q => q ((oI_eq ra Z0).mp (by rw [← oI_0]; exact h))) H locs la hW hS hL)
theorem G.if_lt (X : Cx p s m meth c args cc nL own ret D) {a off : Int} (tgt pc' : Nat) (hd : decode cc pc = .ok (.ifCond .lt off, 3)) (ht : (pc : Int) + off = (tgt : Int)) (hp : pc + 3 = pc') (ra : -2147483648 ≤ a ∧ a ≤ 2147483647)
    (kt : a < 0 → G p l e R s m args below meth c D Bs nL cells slots Q sz kd rf M tgt ls st) (kf : ¬ (a < 0) → G p l e R s m args below meth c D Bs nL cells slots Q sz kd rf M pc' ls st) : G p l e R s m args below meth c D Bs nL cells slots Q sz kd rf M pc ls (vi a :: st) := by
  intro H locs la hW hS hL
  subst hp
  have Z0 : -2147483648 ≤ (0 : Int) ∧ (0 : Int) ≤ 2147483647 := by omega
  exact lv_if_lt X.1 X.2.1 hd ht (fun h => kt ((oI_lt ra Z0).mp (by rw [← oI_0]; exact h)) H locs la hW hS hL) (fun h => kf (fun q => h (by rw [oI_0]; exact (oI_lt ra Z0).mpr q)) H locs la hW hS hL)
theorem G.if_ge (X : Cx p s m meth c args cc nL own ret D) {a off : Int} (tgt pc' : Nat) (hd : decode cc pc = .ok (.ifCond .ge off, 3)) (ht : (pc : Int) + off = (tgt : Int)) (hp : pc + 3 = pc') (ra : -2147483648 ≤ a ∧ a ≤ 2147483647)
    (kt : 0 ≤ a → G p l e R s m args below meth c D Bs nL cells slots Q sz kd rf M tgt ls st) (kf : ¬ (0 ≤ a) → G p l e R s m args below meth c D Bs nL cells slots Q sz kd rf M pc' ls st) : G p l e R s m args below meth c D Bs nL cells slots Q sz kd rf M pc ls (vi a :: st) := by
  intro H locs la hW hS hL
  subst hp
  have Z0 : -2147483648 ≤ (0 : Int) ∧ (0 : Int) ≤ 2147483647 := by omega
  exact lv_if_ge X.1 X.2.1 hd ht (fun h => kt ((oI_le Z0 ra).mp (by rw [← oI_0]; exact h)) H locs la hW hS hL) (fun h => kf (fun q => h (by rw [oI_0]; exact (oI_le Z0 ra).mpr q)) H locs la hW hS hL)
theorem G.if_gt (X : Cx p s m meth c args cc nL own ret D) {a off : Int} (tgt pc' : Nat) (hd : decode cc pc = .ok (.ifCond .gt off, 3)) (ht : (pc : Int) + off = (tgt : Int)) (hp : pc + 3 = pc') (ra : -2147483648 ≤ a ∧ a ≤ 2147483647)
    (kt : 0 < a → G p l e R s m args below meth c D Bs nL cells slots Q sz kd rf M tgt ls st) (kf : ¬ (0 < a) → G p l e R s m args below meth c D Bs nL cells slots Q sz kd rf M pc' ls st) : G p l e R s m args below meth c D Bs nL cells slots Q sz kd rf M pc ls (vi a :: st) := by
  intro H locs la hW hS hL
  subst hp
  have Z0 : -2147483648 ≤ (0 : Int) ∧ (0 : Int) ≤ 2147483647 := by omega
  exact lv_if_gt X.1 X.2.1 hd ht (fun h => kt ((oI_lt Z0 ra).mp (by rw [← oI_0]; exact h)) H locs la hW hS hL) (fun h => kf (fun q => h (by rw [oI_0]; exact (oI_lt Z0 ra).mpr q)) H locs la hW hS hL)
theorem G.if_le (X : Cx p s m meth c args cc nL own ret D) {a off : Int} (tgt pc' : Nat) (hd : decode cc pc = .ok (.ifCond .le off, 3)) (ht : (pc : Int) + off = (tgt : Int)) (hp : pc + 3 = pc') (ra : -2147483648 ≤ a ∧ a ≤ 2147483647)
    (kt : a ≤ 0 → G p l e R s m args below meth c D Bs nL cells slots Q sz kd rf M tgt ls st) (kf : ¬ (a ≤ 0) → G p l e R s m args below meth c D Bs nL cells slots Q sz kd rf M pc' ls st) : G p l e R s m args below meth c D Bs nL cells slots Q sz kd rf M pc ls (vi a :: st) := by
  intro H locs la hW hS hL
  subst hp
  have Z0 : -2147483648 ≤ (0 : Int) ∧ (0 : Int) ≤ 2147483647 := by omega
  exact lv_if_le X.1 X.2.1 hd ht (fun h => kt ((oI_le ra Z0).mp (by rw [← oI_0]; exact h)) H locs la hW hS hL) (fun h => kf (fun q => h (by rw [oI_0]; exact (oI_le ra Z0).mpr q)) H locs la hW hS hL)
/-- a condition as a number -/
def bi (q : Prop) [Decidable q] : Int := if q then 1 else 0
theorem bi_t {q : Prop} [Decidable q] (h : q) : bi q = 1 := if_pos h
theorem bi_f {q : Prop} [Decidable q] (h : ¬ q) : bi q = 0 := if_neg h
theorem bi_01 (q : Prop) [Decidable q] : bi q = 0 ∨ bi q = 1 := by
  by_cases h : q
  · exact Or.inr (bi_t h)
  · exact Or.inl (bi_f h)
theorem G.ifb_eq (X : Cx p s m meth c args cc nL own ret D) {q : Prop} [Decidable q] {off : Int} (tgt pc' : Nat) (hd : decode cc pc = .ok (.ifCond .eq off, 3)) (ht : (pc : Int) + off = (tgt : Int)) (hp : pc + 3 = pc')
    (kt : ¬ q → G p l e R s m args below meth c D Bs nL cells slots Q sz kd rf M tgt ls st) (kf : q → G p l e R s m args below meth c D Bs nL cells slots Q sz kd rf M pc' ls st) : G p l e R s m args below meth c D Bs nL cells slots Q sz kd rf M pc ls (vi (bi q) :: st) := by
  refine G.if_eq X tgt pc' hd ht hp (by rcases bi_01 q with h | h <;> omega) (fun h => kt ?_) (fun h => kf ?_)
  · by_cases hq : q <;> simp_all [bi]
  · by_cases hq : q <;> simp_all [bi]
theorem G.ifb_ne (X : Cx p s m meth c args cc nL own ret D) {q : Prop} [Decidable q] {off : Int} (tgt pc' : Nat) (hd : decode cc pc = .ok (.ifCond .ne off, 3)) (ht : (pc : Int) + off = (tgt : Int)) (hp : pc + 3 = pc')
    (kt : q → G p l e R s m args below meth c D Bs nL cells slots Q sz kd rf M tgt ls st) (kf : ¬ q → G p l e R s m args below meth c D Bs nL cells slots Q sz kd rf M pc' ls st) : G p l e R s m args below meth c D Bs nL cells slots Q sz kd rf M pc ls (vi (bi q) :: st) := by
  refine G.if_ne X tgt pc' hd ht hp (by rcases bi_01 q with h | h <;> omega) (fun h => kt ?_) (fun h => kf ?_)
  · by_cases hq : q <;> simp_all [bi]
  · by_cases hq : q <;> simp_all [bi]
theorem G.goto (X : Cx p s m meth c args cc nL own ret D) {off : Int} (tgt : Nat) (hd : decode cc pc = .ok (.goto off, 3)) (ht : (pc : Int) + off = (tgt : Int)) (kk : G p l e R s m args below meth c D Bs nL cells slots Q sz kd rf M tgt ls st) : G p l e R s m args below meth c D Bs nL cells slots Q sz kd rf M pc ls st := fun H locs la hW hS hL => lv_goto X.1 X.2.1 hd ht (kk H locs la hW hS hL)
theorem G.ifnonnull (X : Cx p s m meth c args cc nL own ret D) {a : Nat} {off : Int} (tgt : Nat) (hd : decode cc pc = .ok (.ifnonnull off, 3)) (ht : (pc : Int) + off = (tgt : Int)) (kk : G p l e R s m args below meth c D Bs nL cells slots Q sz kd rf M tgt ls st) : G p l e R s m args below meth c D Bs nL cells slots Q sz kd rf M pc ls (.ref a :: st) := fun H locs la hW hS hL => lv_ifnonnull X.1 X.2.1 hd ht (kk H locs la hW hS hL)
theorem G.ifnullN (X : Cx p s m meth c args cc nL own ret D) {off : Int} (tgt : Nat) (hd : decode cc pc = .ok (.ifnull off, 3)) (ht : (pc : Int) + off = (tgt : Int)) (kk : G p l e R s m args below meth c D Bs nL cells slots Q sz kd rf M tgt ls st) : G p l e R s m args below meth c D Bs nL cells slots Q sz kd rf M pc ls (.null :: st) := fun H locs la hW hS hL => lv_ifnullN X.1 X.2.1 hd ht (kk H locs la hW hS hL)
theorem G.ifnull (X : Cx p s m meth c args cc nL own ret D) {a : Nat} {off : Int} (pc' : Nat) (hd : decode cc pc = .ok (.ifnull off, 3)) (hp : pc + 3 = pc')
    (kk : G p l e R s m args below meth c D Bs nL cells slots Q sz kd rf M pc' ls st) : G p l e R s m args below meth c D Bs nL cells slots Q sz kd rf M pc ls (.ref a :: st) := by
  intro H locs la hW hS hL
  subst hp
  exact lv_ifnull X.1 X.2.1 hd (kk H locs la hW hS hL)
theorem G.ifnonnullN (X : Cx p s m meth c args cc nL own ret D) {off : Int} (pc' : Nat) (hd : decode cc pc = .ok (.ifnonnull off, 3)) (hp : pc + 3 = pc')
    (kk : G p l e R s m args below meth c D Bs nL cells slots Q sz kd rf M pc' ls st) : G p l e R s m args below meth c D Bs nL cells slots Q sz kd rf M pc ls (.null :: st) := by
  intro H locs la hW hS hL
  subst hp
  exact lv_ifnonnullN X.1 X.2.1 hd (kk H locs la hW hS hL)
theorem G.tableIn (X : Cx p s m meth c args cc nL own ret D) {dflt lo hi : Int} {offs : Array Int} {len : Nat} {a off : Int} (tgt : Nat) (hd : decode cc pc = .ok (.tableswitch dflt lo hi offs, len)) (ra : -2147483648 ≤ a ∧ a ≤ 2147483647) (h1 : lo ≤ a) (h2 : a ≤ hi) (ho : offs[(a - lo).toNat]? = some off) (ht : (pc : Int) + off = (tgt : Int)) (kk : G p l e R s m args below meth c D Bs nL cells slots Q sz kd rf M tgt ls st) : G p l e R s m args below meth c D Bs nL cells slots Q sz kd rf M pc ls (vi a :: st) := fun H locs la hW hS hL => lv_tableIn X.1 X.2.1 hd (by rw [oI_t ra]; omega) (by rw [oI_t ra]; omega) (by rw [oI_t ra]; exact ho) ht (kk H locs la hW hS hL)
theorem G.tableOut (X : Cx p s m meth c args cc nL own ret D) {dflt lo hi : Int} {offs : Array Int} {len : Nat} {a : Int} (tgt : Nat) (hd : decode cc pc = .ok (.tableswitch dflt lo hi offs, len)) (ra : -2147483648 ≤ a ∧ a ≤ 2147483647) (h1 : a < lo ∨ hi < a) (ht : (pc : Int) + dflt = (tgt : Int)) (kk : G p l e R s m args below meth c D Bs nL cells slots Q sz kd rf M tgt ls st) : G p l e R s m args below meth c D Bs nL cells slots Q sz kd rf M pc ls (vi a :: st) := fun H locs la hW hS hL => lv_tableOut X.1 X.2.1 hd (by rw [oI_t ra]; exact h1) ht (kk H locs la hW hS hL)
theorem G.lookup (X : Cx p s m meth c args cc nL own ret D) {dflt : Int} {ps : Array (Int × Int)} {len : Nat} {a off : Int} (tgt : Nat) (hd : decode cc pc = .ok (.lookupswitch dflt ps, len)) (hq : (ps.toList.zip (ps.toList.drop 1)).all (fun (a, next) => a.1 < next.1) = true) (ra : -2147483648 ≤ a ∧ a ≤ 2147483647) (ho : Op.lookupswitch.offset ps.toList dflt a = off) (ht : (pc : Int) + off = (tgt : Int)) (kk : G p l e R s m args below meth c D Bs nL cells slots Q sz kd rf M tgt ls st) : G p l e R s m args below meth c D Bs nL cells slots Q sz kd rf M pc ls (vi a :: st) := fun H locs la hW hS hL => lv_lookup X.1 X.2.1 hd hq (by rw [oI_t ra]; exact ho) ht (kk H locs la hW hS hL)
end GR
