/-! ===== rows that make cells ===== -/
def kn (kd : xKd) (a : Nat) (k : Nat ⊕ (Nat × Nat)) : xKd := fun a' => if a' = a then some k else kd a'
def rn (rf : xRf) (a : Nat) (g : Nat → Option Value) : xRf := fun a' k => if a' = a then g k else rf a' k
def z0 : Nat → Int := fun _ => 0
theorem kn_same {kd : xKd} {a : Nat} {k : Nat ⊕ (Nat × Nat)} : kn kd a k a = some k := if_pos rfl
theorem kn_ne {kd : xKd} {a b : Nat} {k : Nat ⊕ (Nat × Nat)} (h : b ≠ a) : kn kd a k b = kd b := if_neg h
theorem rn_same {rf : xRf} {a : Nat} {g : Nat → Option Value} {k : Nat} : rn rf a g a k = g k := if_pos rfl
theorem rn_ne {rf : xRf} {a b : Nat} {g : Nat → Option Value} {k : Nat} (h : b ≠ a) : rn rf a g b k = rf b k := if_neg h
theorem ru_same {rf : xRf} {a k : Nat} {v : Value} : ru rf a k v a k = some v := if_pos ⟨rfl, rfl⟩
theorem ru_ne {rf : xRf} {a k b j : Nat} {v : Value} (h : b ≠ a ∨ j ≠ k) : ru rf a k v b j = rf b j := if_neg (fun q => by
  rcases h with h | h
  · exact h q.1
  · exact h q.2)
theorem vi_0 : Value.int 0 = vi 0 := congrArg Value.int oI_0
section GN
variable {p : Program} {l : Launch} {e : Env} {R : Room} {s : State} {m : MethodId} {args : Array Value} {below : List Frame} {meth : Method} {c : Code} {D : xD} {Bs nL cells slots : Nat} {Q : State → Prop} {sz : Nat} {kd : xKd} {rf : xRf} {M : xM} {cc : ByteArray} {own : String} {ret : Option FieldType} {pc : Nat} {ls : List (Option Value)} {st : List Value}
theorem Wd.born {H H1 : Heap} {kk : Nat ⊕ (Nat × Nat)} {g : Nat → Option Value} (hW : Wd D Bs sz kd rf M H) (z1 : H1.size = sz + 1) (o1 : ∀ q, q < sz → H1[q]? = H[q]?) (hc : xCell D kk sz (fun j => (g j).getD (vi 0)) H1) : Wd D Bs (sz + 1) (kn kd sz kk) (rn rf sz g) (ms M sz z0) H1 := by
  refine ⟨z1, Nat.le_trans hW.2.1 (Nat.le_succ _), fun a kb hb => ?_, fun a ci k ha hz => ?_, fun a n j ha => ?_⟩
  · by_cases e : a = sz
    · rw [e, kn_same] at hb
      have e1 : kk = kb := Option.some.inj hb
      rw [← e1, e]
      refine ⟨hW.2.1, ?_⟩
      have e2 : xV (rn rf sz g) (ms M sz z0) sz = fun j => (g j).getD (vi 0) := by
        funext j
        unfold xV
        rw [rn_same, ms_same]
        rfl
      rw [e2]
      exact hc
    · rw [kn_ne e] at hb
      obtain ⟨h1, h2⟩ := hW.2.2.1 a kb hb
      have hlt := h2.lt
      rw [hW.1] at hlt
      refine ⟨h1, ?_⟩
      have e2 : xV (rn rf sz g) (ms M sz z0) a = xV rf M a := by
        funext j
        unfold xV
        rw [rn_ne e, ms_ne e]
      rw [e2]
      exact h2.kept (o1 a hlt)
  · by_cases e : a = sz
    · rw [e, ms_same]
      exact Or.inl rfl
    · rw [ms_ne e]
      rw [kn_ne e] at ha
      exact hW.2.2.2.1 a ci k ha hz
  · by_cases e : a = sz
    · rw [e, ms_same]
      exact ⟨Int.le_refl 0, show (0 : Int) < 65536 by decide⟩
    · rw [ms_ne e]
      rw [kn_ne e] at ha
      exact hW.2.2.2.2 a n j ha
theorem xS_grow {H H1 : Heap} {locs : List Loc} {n : Nat} (hS : va_S (fun q => Bs ≤ q) s.heap H locs) (hz : H.size = n) (z1 : H1.size = n + 1) (o1 : ∀ q, q < n → H1[q]? = H[q]?) : va_S (fun q => Bs ≤ q) s.heap H1 locs := by
  have h1 := hS.1
  exact ⟨by omega, fun x g1 g2 => (o1 x (by omega)).trans (hS.2.1 x g1 g2), hS.2.2⟩
theorem G.newo (X : Cx p s m meth c args cc nL own ret D) {idx ci N : Nat} {C : String} {T : u_T} {ty : Nat → FieldType} (g : Nat → Option Value) (hc : vwCl[ci]? = some (C, T, N)) (cl : Cond.classLink own idx C ∈ gw) (hi : Cond.instantiable C N ∈ gw) (hini : Cond.initialized C ∈ gw) (hty : ∀ k, k < N → parseFieldDescriptor (T k).2.2.1 = some (ty k)) (hg : ∀ k, k < N → defaultValue (ty k) = (g k).getD (vi 0)) (pc' : Nat) (hd : decode cc pc = .ok (.new idx, 3)) (hp : pc + 3 = pc') (hr : cells + 1 ≤ R.cells ∧ slots + N ≤ R.slots)
    (kk : G p l e R s m args below meth c D Bs nL (cells + 1) (slots + N) Q (sz + 1) (kn kd sz (.inl ci)) (rn rf sz g) (ms M sz z0) pc' ls (.ref sz :: st)) : G p l e R s m args below meth c D Bs nL cells slots Q sz kd rf M pc ls st := by
  intro H locs la hW hS hL
  subst hp
  obtain ⟨hx, hb, hml, hown, hts, hK, -, -⟩ := X
  obtain ⟨hlaid, hnm, -⟩ := vw_laid ci C T N hc
  have hKn := hK.1.1 ci _ hc
  refine W.newcK hx hb hown (hts _ cl) (hts _ hi) (hts _ hini) rfl hd hr.1 hr.2 hKn.2.1 hW.1 fun H1 kC hkC e1 z1 o1 => ?_
  exact kk H1 locs la (hW.born z1 o1 ⟨_, hc, (u_born ty hts hlaid hKn hkC e1 hty).to hg⟩) (xS_grow hS hW.1 z1 o1) hL
theorem G.newi (X : Cx p s m meth c args cc nL own ret D) {n t : Nat} {atype : ArrayType} {j : Int} (hat : newarray.typeOf atype = aty t) (ht : t = 0 ∨ t = 1) (harr : Cond.arrayClass (aty t) ∈ gw) (pc' : Nat) (hd : decode cc pc = .ok (.newarray atype, 2)) (hp : pc + 2 = pc') (hj : j = (n : Int)) (hn : n ≤ 10000) (hr : cells + 1 ≤ R.cells ∧ slots + n ≤ R.slots)
    (kk : G p l e R s m args below meth c D Bs nL (cells + 1) (slots + n) Q (sz + 1) (kn kd sz (.inr (t, n))) (rn rf sz (fun _ => none)) (ms M sz z0) pc' ls (.ref sz :: st)) : G p l e R s m args below meth c D Bs nL cells slots Q sz kd rf M pc ls (vi j :: st) := by
  intro H locs la hW hS hL
  subst hp
  subst hj
  obtain ⟨hx, hb, hml, hown, hts, hK, -, -⟩ := X
  have hneg : ¬ Int32.ofInt (n : Int) < 0 := fun q => oI_in (i := n) (n := n + 1) (by omega) (by omega) (Or.inl q)
  have hcb : componentBytes (newarray.typeOf atype) ≤ 8 := by
    rw [hat]
    rcases ht with e | e <;> subst e <;> decide
  have hdv : defaultValue (newarray.typeOf atype) = vi 0 := by
    rw [hat]
    rcases ht with e | e <;> subst e <;> exact vi_0
  have hRA : s.vm.findClass ("[" ++ (newarray.typeOf atype).toString) = some (D.2 t) := by
    rw [hat]
    rcases ht with e | e <;> subst e
    · exact (hK.1.2 0 _ (xT_at (by omega))).2
    · exact (hK.1.2 1 _ (xT_at (by omega))).2
  refine va_newaK hx hb (by rw [hat]; exact hts _ harr) rfl hd rfl hneg (oI_cl (by omega)) (Nat.le_trans (Nat.mul_le_mul hn hcb) (by decide)) hr.1 hr.2 hW.1 fun H1 cA e1 z1 o1 _ hnm => ?_
  have e2 : cA = D.2 t := Option.some.inj (hnm.symm.trans hRA)
  refine kk H1 locs la (hW.born z1 o1 ?_) (xS_grow hS hW.1 z1 o1) hL
  show H1[sz]? = some (arrV (D.2 t) n (fun _ => vi 0))
  rw [e1, e2, hdv]
theorem G.newq (X : Cx p s m meth c args cc nL own ret D) {idx n t : Nat} {C : String} {j : Int} (hat : aty t = .object C) (ht : t < 5) (hao : va_AO C s) (cl : Cond.classLink own idx C ∈ gw) (pc' : Nat) (hd : decode cc pc = .ok (.anewarray idx, 3)) (hp : pc + 3 = pc') (hj : j = (n : Int)) (hn : n ≤ 10000) (hr : cells + 1 ≤ R.cells ∧ slots + n ≤ R.slots)
    (kk : G p l e R s m args below meth c D Bs nL (cells + 1) (slots + n) Q (sz + 1) (kn kd sz (.inr (t, n))) (rn rf sz (fun _ => some .null)) (ms M sz z0) pc' ls (.ref sz :: st)) : G p l e R s m args below meth c D Bs nL cells slots Q sz kd rf M pc ls (vi j :: st) := by
  intro H locs la hW hS hL
  subst hp
  subst hj
  obtain ⟨hx, hb, hml, hown, hts, hK, -, -⟩ := X
  have hneg : ¬ Int32.ofInt (n : Int) < 0 := fun q => oI_in (i := n) (n := n + 1) (by omega) (by omega) (Or.inl q)
  have hcl : (Int32.ofInt (n : Int)).toNatClampNeg = n := oI_cl (by omega)
  have hRA := (hK.1.2 t _ (xT_at ht)).2
  rw [hat] at hRA
  obtain ⟨kA0, comp0, -, -, -, hnm⟩ := hRA
  refine W.anew hx hb hown (hts _ cl) (va_AO.use hao) rfl hd rfl hneg (by rw [hcl]; omega) hr.1 (by rw [hcl]; exact hr.2) fun cA kA comp f1 f2 f3 f4 => ?_
  have e2 : cA = D.2 t := Option.some.inj (f1.symm.trans hnm)
  rw [hcl]
  generalize hH1 : H.push ({ cls := cA, slots := Array.replicate n .null, vm := .none } : Cell) = H1
  have z1 : H1.size = sz + 1 := by rw [← hH1, Array.size_push, hW.1]
  have e1 : H1[sz]? = some (arrV cA n (fun _ => .null)) := by rw [← hH1, ← hW.1, Array.getElem?_push_size, ← arrV_new]
  have o1 : ∀ q : Nat, q < sz → H1[q]? = H[q]? := fun q hq => by
    have hq2 : q ≠ H.size := by rw [hW.1]; omega
    rw [← hH1, Array.getElem?_push, if_neg hq2]
  rw [hW.1]
  refine kk H1 locs la (hW.born z1 o1 ?_) (xS_grow hS hW.1 z1 o1) hL
  show H1[sz]? = some (arrV (D.2 t) n (fun _ => .null))
  rw [e1, e2]
theorem G.putq (X : Cx p s m meth c args cc nL own ret D) {idx ci k a b N : Nat} {C : String} {T : u_T} {ty : FieldType} (hname : meth.name = "<init>") (hc : vwCl[ci]? = some (C, T, N)) (hkN : k < N) (hC : (T k).1 = C) (hCo : C = own) (link : Cond.fieldLink own idx C (T k).2.1 (T k).2.2.1 ∈ gw) (hfin : (T k).2.2.2 = true) (hty : parseFieldDescriptor (T k).2.2.1 = some ty) (hnf : narrow ty (.ref b) = .ref b ∧ fits ty (.ref b) = true) (pc' : Nat) (hd : decode cc pc = .ok (.putfield idx, 3)) (hp : pc + 3 = pc') (hk : kd a = some (.inl ci))
    (kk : G p l e R s m args below meth c D Bs nL cells slots Q sz kd (ru rf a k (.ref b)) M pc' ls st) : G p l e R s m args below meth c D Bs nL cells slots Q sz kd rf M pc ls (.ref b :: .ref a :: st) := by
  intro H locs la hW hS hL
  subst hp
  obtain ⟨hx, hb, hml, hown, hts, hK, -, -⟩ := X
  obtain ⟨hlaid, hnm, ty0, hty0⟩ := vw_laid ci C T N hc
  obtain ⟨cell, q1, q2, q3, q4⟩ := (hW.2.2.1 a _ hk).2.obj hc
  have hap := va_apart (own := own) hts hlaid ty0 hty0 hnm hK.1 hc
  obtain ⟨hSl, hfc, kC, hkC, hkind⟩ := hK.1.1 ci _ hc
  obtain ⟨cf, kf, fi, f, hi, hsl⟩ := hSl k hkN
  have hlay := hts _ (hlaid _ (u_in_lay hkN))
  unfold u_lay at hlay
  rw [if_pos hfin] at hlay
  have hst := (u_facts hfc hkC (u_lays hts hlaid hkN) hi).1
  have hcf : m.cls = cf := by
    obtain ⟨_, _, c', _, _, _, -, -, hf', -, -, -, hown2, -⟩ := Cond.laysFinal_spec hlay
    have e1 : c' = cf := by have := hi.symm.trans hf'; simp at this; exact this.1.symm
    rw [hC, hCo] at hown2
    rw [← e1]
    exact Option.some.inj (hown.symm.trans hown2)
  have h6 := u_fits hfc hkC hkind (Or.inr hlay) hi hty hnf.1 hnf.2
  dsimp only at hi
  rw [hC] at hi
  refine W.putFinK hx hb hown (hts _ link) hi hst hcf hname (by rw [q2]; exact h6) q1 q3 (by rw [hsl]; exact k2_hasslot (q4 k hkN)) rfl rfl hd fun H1 e1 e2 e3 => ?_
  rw [hsl] at e1
  exact kk H1 _ la (hW.putO hk hc hkN hap q1 e1 e2 e3 xV_ru (fun b hb => xV_ru_ne hb) hW.2.2.2) (hS.put e2 e3 (hW.2.2.1 a _ hk).1) hL
theorem G.astq (X : Cx p s m meth c args cc nL own ret D) {a n i t b ci N : Nat} {C : String} {T : u_T} {j : Int} (pc' : Nat) (hd : decode cc pc = .ok (.aastore, 1)) (hp : pc + 1 = pc') (hk : kd a = some (.inr (t, n))) (ht : t < 5) (hat : aty t = .object C) (hkb : kd b = some (.inl ci)) (hc : vwCl[ci]? = some (C, T, N)) (hj : j = (i : Int)) (hi : i < n) (hn : n ≤ 2147483647)
    (kk : G p l e R s m args below meth c D Bs nL cells slots Q sz kd (ru rf a i (.ref b)) M pc' ls st) : G p l e R s m args below meth c D Bs nL cells slots Q sz kd rf M pc ls (.ref b :: vi j :: .ref a :: st) := by
  intro H locs la hW hS hL
  subst hp
  subst hj
  obtain ⟨hx, hb, hml, hown, hts, hK, -, -⟩ := X
  obtain ⟨cellV, g1, g2, g3, -⟩ := (hW.2.2.1 b _ hkb).2.obj hc
  have hcls := (hK.1.1 ci _ hc).2
  have hRA := (hK.1.2 t _ (xT_at ht)).2
  rw [hat] at hRA
  obtain ⟨kA, comp, k1, k2, k3, -⟩ := hRA
  have hcomp : comp = D.1.1 ci := Option.some.inj (k3.symm.trans hcls.1)
  subst hcomp
  obtain ⟨kC, hkC, -⟩ := hcls.2
  have hneg : ¬ Int32.ofInt (i : Int) < 0 := fun q => oI_in (i := i) (n := i + 1) (by omega) (by omega) (Or.inl q)
  have hcl : (Int32.ofInt (i : Int)).toNatClampNeg = i := oI_cl (by omega)
  refine W.aast hx hb (hW.arr hk) (fun q h => by cases h) (fun h => by cases h) k1 k2 rfl hkC ⟨hneg, by rw [arrV_size, hcl]; exact hi⟩ g1 (fun q h => by rw [g3] at h; cases h) (by rw [g2]; exact hkC) (by rw [g2]; exact va_assign hcls) rfl rfl hd fun H1 e1 z1 oq => ?_
  rw [hcl] at e1
  exact kk H1 _ la (hW.putA (v := .ref b) hk e1 z1 oq xV_ru (fun b hb => xV_ru_ne hb) hW.2.2.2) (hS.put z1 oq (hW.2.2.1 a _ hk).1) hL
end GN
theorem fk_X4_20 : Cond.fieldLink RX4 20 RX4 (TX4 9).2.1 (TX4 9).2.2.1 ∈ gw := (gm 142 (by decide +kernel) (by decide +kernel))
theorem fk_X4_26 : Cond.fieldLink RX4 26 RX4 (TX4 10).2.1 (TX4 10).2.2.1 ∈ gw := (gm 144 (by decide +kernel) (by decide +kernel))
theorem fk_X2_11 : Cond.fieldLink RX2 11 RX2 (TX2 0).2.1 (TX2 0).2.2.1 ∈ gw := (gm 178 (by decide +kernel) (by decide +kernel))
theorem fk_X3_9 : Cond.fieldLink RX3 9 RX3 (TX3 0).2.1 (TX3 0).2.2.1 ∈ gw := (gm 197 (by decide +kernel) (by decide +kernel))
theorem fk_X3_17 : Cond.fieldLink RX3 17 RX3 (TX3 2).2.1 (TX3 2).2.2.1 ∈ gw := (gm 200 (by decide +kernel) (by decide +kernel))
theorem fk_X5_10 : Cond.fieldLink RX5 10 RX5 (TX5 0).2.1 (TX5 0).2.2.1 ∈ gw := (gm 218 (by decide +kernel) (by decide +kernel))
theorem fk_X5_16 : Cond.fieldLink RX5 16 RX5 (TX5 1).2.1 (TX5 1).2.2.1 ∈ gw := (gm 219 (by decide +kernel) (by decide +kernel))
theorem fk_X5_19 : Cond.fieldLink RX5 19 RX5 (TX5 2).2.1 (TX5 2).2.2.1 ∈ gw := (gm 220 (by decide +kernel) (by decide +kernel))
theorem fk_X5_29 : Cond.fieldLink RX5 29 RX5 (TX5 4).2.1 (TX5 4).2.2.1 ∈ gw := (gm 222 (by decide +kernel) (by decide +kernel))
theorem fk_X5_36 : Cond.fieldLink RX5 36 RX5 (TX5 5).2.1 (TX5 5).2.2.1 ∈ gw := (gm 223 (by decide +kernel) (by decide +kernel))
theorem fk_X5_40 : Cond.fieldLink RX5 40 RX5 (TX5 6).2.1 (TX5 6).2.2.1 ∈ gw := (gm 224 (by decide +kernel) (by decide +kernel))
