/-! THE CLAIM OUT OF ONE WALK OF THE LAW'S BODY. Your part is whole_start (and what it stands on); all else here is the same for every law, but numbers. -/
def R_law : String := "StormHireLaw"
def lw_P (b : Addr) (xs : List Int32) (args : Array Value) (s : State) : Prop := args = #[.ref b] ∧ s.IntsAt b xs ∧ xs.length ≤ 2560 ∧ (Jvm.Cond.and given_1 narrow_1).before args s = true
def lw_Q (_ : Array Value) (s : State) (o : Outcome) (t : State) : Prop := o = .returned (some (.int 1)) ∧ Framed s o t [] 600000 7302250
def lw_Z (below : List Frame) (a : Array Value) (s : State) : State → Prop := fun t => ∃ o, t.status = .running ∧ Ended t below o ∧ lw_Q a s o t
/-- the law's own end, with 1 on the stack, nothing written that was there before, its room as the claim has it -/
theorem lw_ret {p : Program} {l : Launch} {e : Env} {s : State} {m : MethodId} {below : List Frame} {meth : Method} {c : Code} {b : Nat} (hx : p.tables.exec = Jvm.exec) (hb : c.code = code) (hr : meth.sig.returnType = ret) (hlocks : meth.locks = false) {pc : Nat} {H : Heap} {ls : Array Slot} (hdg : decode code pc = .ok (.ireturn, 1)) : W p l e room_1 s m #[Value.ref b] below meth c H [] 600000 7302250 (lw_Z below #[Value.ref b] s) (F0 m pc ls [.int 1]) := by
  intro T hT X
  obtain ⟨fs, hret, hrun, hended, hW, hframe⟩ := X.leave (v := some (.int 1)) (hlocks := hlocks) (fun h => by rw [hr] at h; cases h)
  have hmeth' : T.vm.method? m = some meth := X.method'
  refine ⟨T.setFrames fs, ?_, .returned (some (.int 1)), hrun, hended, rfl, ⟨_, rfl⟩, hW, hframe⟩
  jvm_step X.here [X.here.top, hx, hb, hdg, hmeth', hr, ret, narrow_b1]
  (try refine ⟨rfl, ?_⟩); (try refine ⟨rfl, ?_⟩)
  first | (intro acts; rw [hret _ acts rfl rfl rfl]) | rw [hret _ _ rfl rfl rfl]
  exact Steps.refl _
/-- what holds at the law's entry: the machine, the code, the tables' words (any of lw_tbl by 'hts w (by decide +kernel)'), the script of L ints xs at the cell b, what the Statement gives of the start (any of its parts by flat_of_before) -/
def lw_At (p : Program) (s : State) (m : MethodId) (meth : Method) (c : Code) (b L : Nat) (xs : Nat → Int32) : Prop :=
  p.tables.exec = Jvm.exec ∧ c.code = code ∧ meth.sig.returnType = ret ∧ c.maxLocals = 4 ∧ s.vm.findClass R_law = some m.cls ∧ (∀ w ∈ lw_tbl, w.before #[Value.ref b] s = true) ∧ va_X b L xs s s.heap ∧ b < s.heap.size ∧ meth.locks = false ∧ (Jvm.Cond.and given_1 narrow_1).before #[Value.ref b] s = true
section GL
variable {p : Program} {l : Launch} {e : Env} {R : Room} {s : State} {m : MethodId} {args : Array Value} {below : List Frame} {meth : Method} {c : Code} {D : xD} {Bs nL cells slots : Nat} {Q : State → Prop} {sz : Nat} {kd : xKd} {rf : xRf} {M : xM} {cc : ByteArray} {own : String} {ret : Option FieldType} {pc : Nat} {ls : List (Option Value)} {st : List Value}
theorem ir_x (x : Int32) : IR x.toInt := by
  have h1 := Int32.le_toInt x
  have h2 := Int32.toInt_lt x
  exact ⟨by omega, by omega⟩
theorem G.sld (X : Cx p s m meth c args cc nL own ret D) {b L i : Nat} {xs : Nat → Int32} {j : Int} (hX : va_X b L xs s s.heap) (hbl : b < s.heap.size) (hBs : s.heap.size ≤ Bs) (pc' : Nat) (hd : decode cc pc = .ok (.iaload, 1)) (hp : pc + 1 = pc') (hj : j = (i : Int)) (hi : i < L) (hn : L ≤ 2560)
    (kk : G p l e R s m args below meth c D Bs nL cells slots Q sz kd rf M pc' ls (vi (xs i).toInt :: st)) : G p l e R s m args below meth c D Bs nL cells slots Q sz kd rf M pc ls (vi j :: .ref b :: st) := by
  intro H locs la hW hS hL
  subst hp
  subst hj
  have kk := kk H locs la hW hS hL
  obtain ⟨hx, hb, hml, hown, hts, hK, -, -⟩ := X
  have e1 : vi (xs i).toInt = .int (xs i) := congrArg Value.int (Int32.ofInt_toInt _)
  rw [e1] at kk
  refine va_sld hx hb hX hbl (show ¬ Bs ≤ b by omega) hS (oI_in hi (by omega)) hd ?_
  rw [oI_cl (by omega)]
  exact kk
theorem G.slen (X : Cx p s m meth c args cc nL own ret D) {b L : Nat} {xs : Nat → Int32} (hX : va_X b L xs s s.heap) (hbl : b < s.heap.size) (hBs : s.heap.size ≤ Bs) (pc' : Nat) (hd : decode cc pc = .ok (.arraylength, 1)) (hp : pc + 1 = pc')
    (kk : G p l e R s m args below meth c D Bs nL cells slots Q sz kd rf M pc' ls (vi (L : Int) :: st)) : G p l e R s m args below meth c D Bs nL cells slots Q sz kd rf M pc ls (.ref b :: st) := by
  intro H locs la hW hS hL
  subst hp
  have kk := kk H locs la hW hS hL
  obtain ⟨hx, hb, hml, hown, hts, hK, -, -⟩ := X
  have e1 : vi (L : Int) = .int (Int32.ofNat L) := congrArg Value.int (oI_nat L)
  rw [e1] at kk
  exact va_slen hx hb hX hbl (show ¬ Bs ≤ b by omega) hS hd kk
theorem G.and31 (X : Cx p s m meth c args cc nL own ret D) {a : Int} (pc' : Nat) (hd : decode cc pc = .ok (.iand, 1)) (hp : pc + 1 = pc') (ra : IR a)
    (kk : G p l e R s m args below meth c D Bs nL cells slots Q sz kd rf M pc' ls (vi (a % 32) :: st)) : G p l e R s m args below meth c D Bs nL cells slots Q sz kd rf M pc ls (vi 31 :: vi a :: st) := by
  intro H locs la hW hS hL
  subst hp
  have kk := kk H locs la hW hS hL
  have e1 : vi (a % 32) = .int (Int32.ofInt a &&& Int32.ofInt 31) := by
    have h1 := Jvm.Kit.i32_mask (Int32.ofInt a) (Int32.ofInt 31) (k := 5) (by decide) (by decide)
    rw [oI_t ra] at h1
    have h2 : Int32.ofInt (Int32.ofInt a &&& Int32.ofInt 31).toInt = Int32.ofInt a &&& Int32.ofInt 31 := Int32.ofInt_toInt _
    rw [h1] at h2
    exact congrArg Value.int h2
  rw [e1] at kk
  exact lv_iand X.1 X.2.1 hd kk
theorem G.i2c (X : Cx p s m meth c args cc nL own ret D) {a : Int} (pc' : Nat) (hd : decode cc pc = .ok (.i2c, 1)) (hp : pc + 1 = pc') (ra : IR a)
    (kk : G p l e R s m args below meth c D Bs nL cells slots Q sz kd rf M pc' ls (vi (a % 65536) :: st)) : G p l e R s m args below meth c D Bs nL cells slots Q sz kd rf M pc ls (vi a :: st) := by
  intro H locs la hW hS hL
  subst hp
  have h1 := lg_i2c_toInt (Int32.ofInt a)
  rw [oI_t ra] at h1
  have h2 : Int32.ofInt ((Int32.ofInt a).toUInt32.toUInt16.toUInt32.toInt32).toInt = (Int32.ofInt a).toUInt32.toUInt16.toUInt32.toInt32 := Int32.ofInt_toInt _
  rw [h1] at h2
  refine lv_i2c (v := Int32.ofInt (a % 65536)) X.1 X.2.1 hd ?_ (kk H locs la hW hS hL)
  rw [lg_i2c_nf]
  exact h2.symm
theorem G.same (X : Cx p s m meth c args cc nL own ret D) {a off : Int} (tgt : Nat) (hd : decode cc pc = .ok (.if_icmp .eq off, 3)) (ht : (pc : Int) + off = (tgt : Int)) (kt : G p l e R s m args below meth c D Bs nL cells slots Q sz kd rf M tgt ls st) : G p l e R s m args below meth c D Bs nL cells slots Q sz kd rf M pc ls (vi a :: vi a :: st) := fun H locs la hW hS hL =>
  lv_icmp_eq X.1 X.2.1 hd ht (fun _ => kt H locs la hW hS hL) (fun h => absurd rfl h)
end GL
abbrev LG (p : Program) (l : Launch) (e : Env) (s : State) (m : MethodId) (b : Nat) (below : List Frame) (meth : Method) (c : Code) (D : xD) (a y sz : Nat) (kd : xKd) (rf : xRf) (i : Nat) (M : xM) (pc : Nat) : Prop := G p l e room_1 s m #[Value.ref b] below meth c D s.heap.size 4 223 4028 (lw_Z below #[Value.ref b] s) sz kd rf M pc [some (.ref b), some (.ref a), some (.ref y), some (vi (i : Int))] []
theorem LG.done {p : Program} {l : Launch} {e : Env} {s : State} {m : MethodId} {b : Nat} {below : List Frame} {meth : Method} {c : Code} {D : xD} (X : Cx p s m meth c #[Value.ref b] code 4 RL ret D) {a y sz : Nat} {kd : xKd} {rf : xRf} {i : Nat} {M : xM} : LG p l e s m b below meth c D a y sz kd rf i M 751 := by
  refine G.iconst X 752 dL_law_751 rfl ?_
  intro H locs la hW hS hL
  obtain ⟨hx, hb, hml, hown, hts, hK, hr, hlocks⟩ := X
  have e1 : vi 1 = .int 1 := by decide
  rw [e1]
  refine va_forget (fun q hq => hS.2.2 q hq) ?_
  refine W.widen (k := 600000) (n := 7302250) (Nat.le_of_ble_eq_true rfl) (Nat.le_of_ble_eq_true rfl) ?_
  exact lw_ret hx hb hr hlocks dL_law_752
theorem CSt.keep {M M' : xM} {a : Nat} {r : xR} {h : List xR} {sn : Option xR} {t : List Int} (hC : CSt M a r h sn t) (hr : Bn r) (hB : CB h sn) (hO : ∀ x, a ≤ x → x < a + 215 → M' x = M x) : CSt M' a r h sn t := hC.scr hr hB (fun x h1 h2 _ => hO x (by omega) (by omega)) (by rw [hO _ (by omega) (by omega)]) (hO _ (by omega) (by omega))
theorem MSt.keep {M M' : xM} {y : Nat} {r : xR} {h : List xR} {sn : Option xR} {t : List Int} (hM : MSt M y r h sn t) (hO : ∀ x, y ≤ x → x < y + 8 → M' x = M x) : MSt M' y r h sn t := by
  have ey := hO y (by omega) (by omega)
  refine hM.off (hO _ (by omega) (by omega)) (hO _ (by omega) (by omega)) (hO _ (by omega) (by omega)) (by rw [ey]) (by rw [ey]) ?_
  unfold TxM
  rw [ey, hO (y + 6) (by omega) (by omega)]
  exact hM.2.2.2.2
/-- what the law's loop keeps: both hold the same state, and it is in order -/
def LI (a y : Nat) (kd : xKd) (rf : xRf) (M : xM) (r : xR) (h : List xR) (sn : Option xR) (t : List Int) : Prop := ShX kd rf a ∧ ShY kd rf y ∧ a + 215 = y ∧ Iv rowI r h sn ∧ CSt M a r h sn t ∧ MSt M y r h sn t
theorem ShX.old {kd kd' : xKd} {rf rf' : xRf} {a : Nat} (h : ShX kd rf a) (hk : ∀ x, a ≤ x → x < a + 215 → kd' x = kd x ∧ ∀ k, rf' x k = rf x k) : ShX kd' rf' a := by
  obtain ⟨k0, r3, ⟨r0, s0⟩, ⟨r1, s1⟩, ⟨r2, s2⟩, ⟨r4, s4⟩, ⟨r5, s5⟩, r6, s6⟩ := h
  have ra : ∀ k, rf' a k = rf a k := (hk a (by omega) (by omega)).2
  refine ⟨(hk a (by omega) (by omega)).1.trans k0, (ra 3).trans r3, ⟨(ra 0).trans r0, s0.old (fun x h1 h2 => hk x (by omega) (by omega))⟩, ⟨(ra 1).trans r1, s1.old (fun x h1 h2 => hk x (by omega) (by omega))⟩, ⟨(ra 2).trans r2, s2.old (fun x h1 h2 => hk x (by omega) (by omega))⟩, ⟨(ra 4).trans r4, s4.old (fun x h1 h2 => hk x (by omega) (by omega))⟩, ⟨(ra 5).trans r5, s5.old (fun x h1 h2 => hk x (by omega) (by omega))⟩, (ra 6).trans r6, (hk _ (by omega) (by omega)).1.trans s6.1, fun k => ((hk _ (by omega) (by omega)).2 k).trans (s6.2 k)⟩
theorem Iv.row {r q : xR} {z : xR} (h1 : Tl z r) (h2 : Tl z q) : Tl r q := fun k hk => (h2 k hk).trans (h1 k hk).symm
