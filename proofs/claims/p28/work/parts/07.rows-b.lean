section GH
variable {p : Program} {l : Launch} {e : Env} {R : Room} {s : State} {m : MethodId} {args : Array Value} {below : List Frame} {meth : Method} {c : Code} {D : xD} {Bs nL cells slots : Nat} {Q : State → Prop} {sz : Nat} {kd : xKd} {rf : xRf} {M : xM} {cc : ByteArray} {own : String} {ret : Option FieldType} {pc : Nat} {ls : List (Option Value)} {st : List Value}
theorem vw_laid : ∀ (ci : Nat) (C : String) (T : u_T) (N : Nat), vwCl[ci]? = some (C, T, N) → (∀ w ∈ u_ws C T N, w ∈ gw) ∧ (∀ a, a < N → ∀ b, b < N → a ≠ b → (T a).2.1 ≠ (T b).2.1) ∧ ∃ ty : Nat → FieldType, ∀ k, k < N → parseFieldDescriptor (T k).2.2.1 = some (ty k) := by
  intro ci C T N h
  match ci, h with
  | 0, h => cases h; exact ⟨laid0, nmX0, tyX0, tyX0_ok⟩
  | 1, h => cases h; exact ⟨laid1, nmX1, tyX1, tyX1_ok⟩
  | 2, h => cases h; exact ⟨laid2, nmX2, tyX2, tyX2_ok⟩
  | 3, h => cases h; exact ⟨laid3, nmX3, tyX3, tyX3_ok⟩
  | 4, h => cases h; exact ⟨laid4, nmX4, tyX4, tyX4_ok⟩
  | 5, h => cases h; exact ⟨laid5, nmX5, tyX5, tyX5_ok⟩
  | n + 6, h => simp [vwCl] at h
/-- the cell of an object: its slots -/
theorem xCell.obj {ci : Nat} {a : Nat} {V : Nat → Value} {H : Heap} {C : String} {T : u_T} {N : Nat} (h : xCell D (.inl ci) a V H) (hc : vwCl[ci]? = some (C, T, N)) : t_OB a (D.1.1 ci) N (D.1.2 ci) H V := by
  obtain ⟨r, hr, ho⟩ := h
  cases hr.symm.trans hc
  exact ho
theorem G.getf (X : Cx p s m meth c args cc nL own ret D) {idx ci k a : Nat} {v : Value} (fl : FL own idx ci k) (pc' : Nat) (hd : decode cc pc = .ok (.getfield idx, 3)) (hp : pc + 3 = pc') (hk : kd a = some (.inl ci)) (hv : xV rf M a k = v)
    (kk : G p l e R s m args below meth c D Bs nL cells slots Q sz kd rf M pc' ls (v :: st)) : G p l e R s m args below meth c D Bs nL cells slots Q sz kd rf M pc ls (.ref a :: st) := by
  intro H locs la hW hS hL
  subst hp
  subst hv
  have kk := kk H locs la hW hS hL
  obtain ⟨hx, hb, hml, hown, hts, hK, -, -⟩ := X
  obtain ⟨C, T, N, hc, hkN, hC, hlink⟩ := fl
  obtain ⟨cell, q1, q2, q3, q4⟩ := (hW.2.2.1 a _ hk).2.obj hc
  obtain ⟨hSl, hfc, kC, hkC, hkind⟩ := hK.1.1 ci _ hc
  obtain ⟨cf, kf, fi, f, hi, hsl⟩ := hSl k hkN
  have hfacts := u_facts hfc hkC (u_lays hts (vw_laid ci C T N hc).1 hkN) hi
  dsimp only at hi
  rw [hC] at hi
  rcases hlink with hlink | ⟨host, hlink⟩
  · exact W.getf hx hb hown (hts _ hlink) hi hfacts.1 q1 (by rw [q3]; exact fun h => by cases h) (by rw [hsl]; exact q4 k hkN) rfl rfl hd kk
  · exact va_Wgetf hx hb hown (va_Nw.use rfl (hK.2.1 _ hlink)) hi hfacts.1 q1 (by rw [q3]; exact fun h => by cases h) (by rw [hsl]; exact q4 k hkN) rfl rfl hd kk
theorem G.getI (X : Cx p s m meth c args cc nL own ret D) {idx ci k a : Nat} (fl : FL own idx ci k) (pc' : Nat) (hd : decode cc pc = .ok (.getfield idx, 3)) (hp : pc + 3 = pc') (hk : kd a = some (.inl ci)) (hr : rf a k = none)
    (kk : G p l e R s m args below meth c D Bs nL cells slots Q sz kd rf M pc' ls (vi (M a k) :: st)) : G p l e R s m args below meth c D Bs nL cells slots Q sz kd rf M pc ls (.ref a :: st) := G.getf X fl pc' hd hp hk (xV_int hr) kk
theorem G.getR (X : Cx p s m meth c args cc nL own ret D) {idx ci k a : Nat} {v : Value} (fl : FL own idx ci k) (pc' : Nat) (hd : decode cc pc = .ok (.getfield idx, 3)) (hp : pc + 3 = pc') (hk : kd a = some (.inl ci)) (hr : rf a k = some v)
    (kk : G p l e R s m args below meth c D Bs nL cells slots Q sz kd rf M pc' ls (v :: st)) : G p l e R s m args below meth c D Bs nL cells slots Q sz kd rf M pc ls (.ref a :: st) := G.getf X fl pc' hd hp hk (xV_ref hr) kk
/-- a store into an object's slot -/
theorem Wd.putO {H H1 : Heap} {a ci k : Nat} {C : String} {T : u_T} {N : Nat} {v : Value} {rf' : xRf} {M' : xM} {cell : Cell} (hW : Wd D Bs sz kd rf M H) (hk : kd a = some (.inl ci)) (hc : vwCl[ci]? = some (C, T, N)) (hkN : k < N) (hap : ∀ x y, x < N → y < N → x ≠ y → (D.1.2 ci) x ≠ (D.1.2 ci) y)
    (q1 : H[a]? = some cell) (e1 : H1[a]? = some (cell.setSlot ((D.1.2 ci) k) v)) (e2 : H1.size = H.size) (e3 : ∀ q, q ≠ a → H1[q]? = H[q]?) (hsame : xV rf' M' a = updV (xV rf M a) k v) (hoth : ∀ b, b ≠ a → xV rf' M' b = xV rf M b) (hok : xOk kd M') : Wd D Bs sz kd rf' M' H1 := by
  refine ⟨e2.trans hW.1, hW.2.1, fun b kb hb => ⟨(hW.2.2.1 b kb hb).1, ?_⟩, hok⟩
  by_cases hba : b = a
  · subst hba
    cases hk.symm.trans hb
    obtain ⟨cell', z1, z2, z3, z4⟩ := (hW.2.2.1 b _ hk).2.obj hc
    cases q1.symm.trans z1
    exact ⟨_, hc, _, e1, z2, z3, by rw [hsame]; exact t_set z4 hap hkN v⟩
  · rw [hoth b hba]
    exact (hW.2.2.1 b kb hb).2.kept (e3 b hba)
theorem G.put0 (X : Cx p s m meth c args cc nL own ret D) {idx ci k a : Nat} {v : Value} {rf' : xRf} {M' : xM} {ty : FieldType} (fl : FL own idx ci k) (pc' : Nat) (hd : decode cc pc = .ok (.putfield idx, 3)) (hp : pc + 3 = pc') (hk : kd a = some (.inl ci)) (hfin : ∀ C T N, vwCl[ci]? = some (C, T, N) → (T k).2.2.2 = false ∧ parseFieldDescriptor (T k).2.2.1 = some ty) (hn : narrow ty v = v) (hfit : fits ty v = true)
    (hsame : xV rf' M' a = updV (xV rf M a) k v) (hoth : ∀ b, b ≠ a → xV rf' M' b = xV rf M b) (hok : xOk kd M → xOk kd M')
    (kk : G p l e R s m args below meth c D Bs nL cells slots Q sz kd rf' M' pc' ls st) : G p l e R s m args below meth c D Bs nL cells slots Q sz kd rf M pc ls (v :: .ref a :: st) := by
  intro H locs la hW hS hL
  subst hp
  obtain ⟨hx, hb, hml, hown, hts, hK, -, -⟩ := X
  obtain ⟨C, T, N, hc, hkN, hC, hlink⟩ := fl
  obtain ⟨hlaid, hnm, ty0, hty0⟩ := vw_laid ci C T N hc
  obtain ⟨cell, q1, q2, q3, q4⟩ := (hW.2.2.1 a _ hk).2.obj hc
  have hap := va_apart (own := own) hts hlaid ty0 hty0 hnm hK.1 hc
  obtain ⟨hSl, hfc, kC, hkC, hkind⟩ := hK.1.1 ci _ hc
  obtain ⟨cf, kf, fi, f, hi, hsl⟩ := hSl k hkN
  obtain ⟨hf1, hf2⟩ := hfin C T N hc
  have hlay := hts _ (hlaid _ (u_in_lay hkN))
  unfold u_lay at hlay
  rw [if_neg (by rw [hf1]; decide)] at hlay
  have hst := (u_facts hfc hkC (u_lays hts hlaid hkN) hi).1
  have h6 := u_store hfc hkC hkind hlay hi hf2 hn hfit
  have fin : ∀ H1 : Heap, H1[a]? = some (cell.setSlot f.slot v) → H1.size = H.size → (∀ q, q ≠ a → H1[q]? = H[q]?) → W p l e R s m args below meth c H1 (locs ++ [⟨a, f.slot⟩]) cells slots Q (F0 m (pc + 3) la st) := by
    intro H1 e1 e2 e3
    rw [hsl] at e1
    exact kk H1 _ la (hW.putO hk hc hkN hap q1 e1 e2 e3 hsame hoth (hok hW.2.2.2)) (hS.put e2 e3 (hW.2.2.1 a _ hk).1) hL
  dsimp only at hi
  rw [hC] at hi
  rcases hlink with hlink | ⟨host, hlink⟩
  · exact W.putK hx hb (f := f) ⟨hown, hts _ hlink, ⟨_, _, _, hi⟩, hst⟩ (by rw [q2]; exact h6) q1 q3 (by rw [hsl]; exact k2_hasslot (q4 k hkN)) rfl rfl hd fin
  · exact va_WputK hx hb (f := f) hown (va_Nw.use rfl (hK.2.1 _ hlink)) hi hst (by rw [q2]; exact h6) q1 q3 (by rw [hsl]; exact k2_hasslot (q4 k hkN)) rfl rfl hd fin
def FI (ci k : Nat) (ty : FieldType) (fin : Bool) : Prop := ∀ C T N, vwCl[ci]? = some (C, T, N) → (T k).2.2.2 = fin ∧ parseFieldDescriptor (T k).2.2.1 = some ty
theorem FI.of {ci k : Nat} {ty : FieldType} {fin : Bool} {C : String} {T : u_T} {N : Nat} (hc : vwCl[ci]? = some (C, T, N)) (h : (T k).2.2.2 = fin ∧ parseFieldDescriptor (T k).2.2.1 = some ty) : FI ci k ty fin := fun C' T' N' hc' => by
  cases hc.symm.trans hc'
  exact h
theorem xOk.put {a ci k : Nat} {x : Int} (hk : kd a = some (.inl ci)) (hz : isZ ci k = true → x = 0 ∨ x = 1) (h : xOk kd M) : xOk kd (mu M a k x) := by
  refine ⟨fun b cj j hb hj => ?_, fun b n j hb => ?_⟩
  · by_cases hh : b = a ∧ j = k
    · obtain ⟨rfl, rfl⟩ := hh
      cases hk.symm.trans hb
      rw [mu_same]
      exact hz hj
    · rw [mu_ne (by by_cases h1 : b = a; exact Or.inr (fun h2 => hh ⟨h1, h2⟩); exact Or.inl h1)]
      exact h.1 b cj j hb hj
  · rw [mu_ne (Or.inl (fun e => by subst e; cases hk.symm.trans hb))]
    exact h.2 b n j hb
theorem G.putI (X : Cx p s m meth c args cc nL own ret D) {idx ci k a : Nat} {x : Int} (fl : FL own idx ci k) (fi : FI ci k .int false) (hz : isZ ci k = false) (pc' : Nat) (hd : decode cc pc = .ok (.putfield idx, 3)) (hp : pc + 3 = pc') (hk : kd a = some (.inl ci)) (hr : rf a k = none)
    (kk : G p l e R s m args below meth c D Bs nL cells slots Q sz kd rf (mu M a k x) pc' ls st) : G p l e R s m args below meth c D Bs nL cells slots Q sz kd rf M pc ls (vi x :: .ref a :: st) :=
  G.put0 X fl pc' hd hp hk fi rfl rfl (xV_mu hr) (fun b hb => xV_mu_ne hb) (xOk.put hk (fun h => by rw [hz] at h; cases h)) kk
theorem nar01 {x : Int} (h : x = 0 ∨ x = 1) : narrow .boolean (vi x) = vi x ∧ fits .boolean (vi x) = true := by
  rcases h with h | h <;> subst h <;> decide
theorem G.putZ (X : Cx p s m meth c args cc nL own ret D) {idx ci k a : Nat} {x : Int} (fl : FL own idx ci k) (fi : FI ci k .boolean false) (pc' : Nat) (hd : decode cc pc = .ok (.putfield idx, 3)) (hp : pc + 3 = pc') (hk : kd a = some (.inl ci)) (hr : rf a k = none) (hx01 : x = 0 ∨ x = 1)
    (kk : G p l e R s m args below meth c D Bs nL cells slots Q sz kd rf (mu M a k x) pc' ls st) : G p l e R s m args below meth c D Bs nL cells slots Q sz kd rf M pc ls (vi x :: .ref a :: st) :=
  G.put0 X fl pc' hd hp hk fi (nar01 hx01).1 (nar01 hx01).2 (xV_mu hr) (fun b hb => xV_mu_ne hb) (xOk.put hk (fun _ => hx01)) kk
theorem xT_at {t : Nat} (h : t < 5) : (xT D)[t]? = some (D.2 t, aty t) := by
  match t, h with
  | 0, _ => rfl
  | 1, _ => rfl
  | 2, _ => rfl
  | 3, _ => rfl
  | 4, _ => rfl
theorem oI_in {i n : Nat} (h : i < n) (hn : n ≤ 2147483647) : ¬ (Int32.ofInt (i : Int) < 0 ∨ n ≤ (Int32.ofInt (i : Int)).toNatClampNeg) := by
  rw [oI_nat]
  exact nI_in h (by omega)
theorem oI_cl {i : Nat} (h : i ≤ 2147483647) : (Int32.ofInt (i : Int)).toNatClampNeg = i := by
  rw [oI_nat]
  exact nI_clamp (by omega)
theorem Wd.arr {H : Heap} {a t n : Nat} (hW : Wd D Bs sz kd rf M H) (hk : kd a = some (.inr (t, n))) : H[a]? = some (arrV (D.2 t) n (xV rf M a)) := (hW.2.2.1 a _ hk).2
theorem G.iald (X : Cx p s m meth c args cc nL own ret D) {a n i : Nat} {j : Int} (pc' : Nat) (hd : decode cc pc = .ok (.iaload, 1)) (hp : pc + 1 = pc') (hk : kd a = some (.inr (0, n))) (hr : rf a i = none) (hj : j = (i : Int)) (hi : i < n) (hn : n ≤ 2147483647)
    (kk : G p l e R s m args below meth c D Bs nL cells slots Q sz kd rf M pc' ls (vi (M a i) :: st)) : G p l e R s m args below meth c D Bs nL cells slots Q sz kd rf M pc ls (vi j :: .ref a :: st) := by
  intro H locs la hW hS hL
  subst hp
  subst hj
  have kk := kk H locs la hW hS hL
  obtain ⟨hx, hb, hml, hown, hts, hK, -, -⟩ := X
  exact W.iald hx hb (hW.arr hk) ((hK.1.2 0 _ (xT_at (by omega))).1 n _) (fun q => by cases q) (by rw [arrV_size]; exact oI_in hi hn) (by rw [oI_cl (by omega), arrV_read _ _ hi, xV_int hr]) rfl rfl hd kk
theorem G.cald (X : Cx p s m meth c args cc nL own ret D) {a n i : Nat} {j : Int} (pc' : Nat) (hd : decode cc pc = .ok (.caload, 1)) (hp : pc + 1 = pc') (hk : kd a = some (.inr (1, n))) (hr : rf a i = none) (hj : j = (i : Int)) (hi : i < n) (hn : n ≤ 2147483647)
    (kk : G p l e R s m args below meth c D Bs nL cells slots Q sz kd rf M pc' ls (vi (M a i) :: st)) : G p l e R s m args below meth c D Bs nL cells slots Q sz kd rf M pc ls (vi j :: .ref a :: st) := by
  intro H locs la hW hS hL
  subst hp
  subst hj
  have kk := kk H locs la hW hS hL
  obtain ⟨hx, hb, hml, hown, hts, hK, -, -⟩ := X
  exact W.cald hx hb (hW.arr hk) ((hK.1.2 1 _ (xT_at (by omega))).1 n _) (fun q => by cases q) (by rw [arrV_size]; exact oI_in hi hn) (by rw [oI_cl (by omega), arrV_read _ _ hi, xV_int hr]) rfl rfl hd kk
theorem G.aald (X : Cx p s m meth c args cc nL own ret D) {a t n i : Nat} {j : Int} {v : Value} (pc' : Nat) (hd : decode cc pc = .ok (.aaload, 1)) (hp : pc + 1 = pc') (hk : kd a = some (.inr (t, n))) (ht : 2 ≤ t ∧ t < 5) (hr : rf a i = some v) (hj : j = (i : Int)) (hi : i < n) (hn : n ≤ 2147483647)
    (kk : G p l e R s m args below meth c D Bs nL cells slots Q sz kd rf M pc' ls (v :: st)) : G p l e R s m args below meth c D Bs nL cells slots Q sz kd rf M pc ls (vi j :: .ref a :: st) := by
  intro H locs la hW hS hL
  subst hp
  subst hj
  have kk := kk H locs la hW hS hL
  obtain ⟨hx, hb, hml, hown, hts, hK, -, -⟩ := X
  have hty : (aty t).isReference = true := by
    match t, ht with
    | 2, _ => rfl
    | 3, _ => rfl
    | 4, _ => rfl
  exact W.aald (ty := aty t) hx hb (hW.arr hk) ((hK.1.2 t _ (xT_at ht.2)).1 n _) hty (fun q => by cases q) (by rw [arrV_size]; exact oI_in hi hn) (by rw [oI_cl (by omega), arrV_read _ _ hi, xV_ref hr]) rfl rfl hd kk
/-- a store into an array -/
theorem Wd.putA {H H1 : Heap} {a t n k : Nat} {v : Value} {rf' : xRf} {M' : xM} (hW : Wd D Bs sz kd rf M H) (hk : kd a = some (.inr (t, n))) (e1 : H1[a]? = some ((arrV (D.2 t) n (xV rf M a)).setSlot k v)) (e2 : H1.size = H.size) (e3 : ∀ q, q ≠ a → H1[q]? = H[q]?) (hsame : xV rf' M' a = updV (xV rf M a) k v) (hoth : ∀ b, b ≠ a → xV rf' M' b = xV rf M b) (hok : xOk kd M') : Wd D Bs sz kd rf' M' H1 := by
  refine ⟨e2.trans hW.1, hW.2.1, fun b kb hb => ⟨(hW.2.2.1 b kb hb).1, ?_⟩, hok⟩
  by_cases hba : b = a
  · subst hba
    cases hk.symm.trans hb
    show H1[b]? = some (arrV (D.2 t) n (xV rf' M' b))
    rw [e1, arrV_store, hsame]
  · rw [hoth b hba]
    exact (hW.2.2.1 b kb hb).2.kept (e3 b hba)
theorem xOk.putA {a t n k : Nat} {x : Int} (hk : kd a = some (.inr (t, n))) (hz : t = 1 → 0 ≤ x ∧ x < 65536) (h : xOk kd M) : xOk kd (mu M a k x) := by
  refine ⟨fun b cj j hb hj => ?_, fun b n2 j hb => ?_⟩
  · rw [mu_ne (Or.inl (fun e => by subst e; cases hk.symm.trans hb))]
    exact h.1 b cj j hb hj
  · by_cases hh : b = a ∧ j = k
    · obtain ⟨rfl, rfl⟩ := hh
      cases hk.symm.trans hb
      rw [mu_same]
      exact hz rfl
    · rw [mu_ne (by by_cases h1 : b = a; exact Or.inr (fun h2 => hh ⟨h1, h2⟩); exact Or.inl h1)]
      exact h.2 b n2 j hb
theorem G.iast (X : Cx p s m meth c args cc nL own ret D) {a n i : Nat} {j x : Int} (pc' : Nat) (hd : decode cc pc = .ok (.iastore, 1)) (hp : pc + 1 = pc') (hk : kd a = some (.inr (0, n))) (hr : rf a i = none) (hj : j = (i : Int)) (hi : i < n) (hn : n ≤ 2147483647)
    (kk : G p l e R s m args below meth c D Bs nL cells slots Q sz kd rf (mu M a i x) pc' ls st) : G p l e R s m args below meth c D Bs nL cells slots Q sz kd rf M pc ls (vi x :: vi j :: .ref a :: st) := by
  intro H locs la hW hS hL
  subst hp
  subst hj
  obtain ⟨hx, hb, hml, hown, hts, hK, -, -⟩ := X
  refine W.iast hx hb (hW.arr hk) ((hK.1.2 0 _ (xT_at (by omega))).1 n _) (fun q => by cases q) (by rw [arrV_size]; exact oI_in hi hn) rfl rfl hd (fun H1 e1 e2 e3 => ?_)
  rw [oI_cl (by omega)] at e1
  exact kk H1 _ la (hW.putA (v := vi x) hk e1 e2 e3 (xV_mu hr) (fun b hb => xV_mu_ne hb) (xOk.putA hk (fun h => by cases h) hW.2.2.2)) (hS.put e2 e3 (hW.2.2.1 a _ hk).1) hL
theorem charN {x : Int} (hc : 0 ≤ x ∧ x < 65536) : narrow .char (.int (Int32.ofInt x)) = vi x := by
  obtain ⟨n, rfl⟩ : ∃ n : Nat, x = (n : Int) := ⟨x.toNat, by omega⟩
  rw [vi, oI_nat]
  exact (pk_charN (by omega)).1
theorem G.cast (X : Cx p s m meth c args cc nL own ret D) {a n i : Nat} {j x : Int} (pc' : Nat) (hd : decode cc pc = .ok (.castore, 1)) (hp : pc + 1 = pc') (hk : kd a = some (.inr (1, n))) (hr : rf a i = none) (hj : j = (i : Int)) (hi : i < n) (hn : n ≤ 2147483647) (hc : 0 ≤ x ∧ x < 65536)
    (kk : G p l e R s m args below meth c D Bs nL cells slots Q sz kd rf (mu M a i x) pc' ls st) : G p l e R s m args below meth c D Bs nL cells slots Q sz kd rf M pc ls (vi x :: vi j :: .ref a :: st) := by
  intro H locs la hW hS hL
  subst hp
  subst hj
  obtain ⟨hx, hb, hml, hown, hts, hK, -, -⟩ := X
  refine W.cast hx hb (hW.arr hk) ((hK.1.2 1 _ (xT_at (by omega))).1 n _) (fun q => by cases q) (by rw [arrV_size]; exact oI_in hi hn) rfl rfl hd (fun H1 e1 e2 e3 => ?_)
  rw [oI_cl (by omega)] at e1
  exact kk H1 _ la (hW.putA (v := vi x) hk (by rw [e1, charN hc]) e2 e3 (xV_mu hr) (fun b hb => xV_mu_ne hb) (xOk.putA hk (fun h => hc) hW.2.2.2)) (hS.put e2 e3 (hW.2.2.1 a _ hk).1) hL
theorem G.call0 {post : xPost} {a : Array Value} {rest st0 : List Value} {mc ms pc' : Nat} (hp : pc + 3 = pc')
    (hr : ∀ (H : Heap) (locs : List Loc) (la : Array Slot), Wd D Bs sz kd rf M H → la.size = nL → va_Run p l e R s m args below meth c H locs cells slots mc ms (F0 m pc la st0) rest (xQ D Bs post a) (fun q => Bs ≤ q))
    (kk : ∀ (v : Option Value) (sz' : Nat) (kd' : xKd) (rf' : xRf) (M' : xM), post v sz' kd' rf' M' → G p l e R s m args below meth c D Bs nL (cells + mc) (slots + ms) Q sz' kd' rf' M' pc' ls (v.toList ++ rest)) : G p l e R s m args below meth c D Bs nL cells slots Q sz kd rf M pc ls st0 := by
  intro H locs la hW hS hL T hT X
  obtain ⟨v, st₀, t, T', L, h0, X', hL', e1, e2, ⟨⟨v2, sz', kd', rf', M', hv, hp2, hW'⟩, hz, hk⟩, st⟩ := hr H locs la hW hL.1.1 T hT X
  cases hv
  rw [h0] at hz hk
  subst hp
  obtain ⟨t2, a1, b1⟩ := kk v sz' kd' rf' M' hp2 T'.heap (locs ++ L) la (by rw [e1]; exact hW') ⟨Nat.le_trans hS.1 (by rw [e1]; exact hz), fun q h1 h2 => by rw [e1, hk q (Nat.lt_of_lt_of_le h1 hS.1) h2]; exact hS.2.1 q h1 h2, fun q hq => by
    rcases List.mem_append.mp hq with h | h
    · exact hS.2.2 q h
    · exact hL' q h⟩ hL T' rfl X'
  exact ⟨t2, st t2 a1, b1⟩
theorem xR_of {y : MethodName} {np : Nat} (h : (parseMethodDescriptor y.desc).map (fun d => d.parameters.length) = some np) : ∀ sig, parseMethodDescriptor y.desc = some sig → np = sig.parameters.length := fun sig hs => by
  rw [hs] at h
  exact (Option.some.inj h).symm
theorem G.callV (X : Cx p s m meth c args cc nL own ret D) {idx np nn b : Nat} {y : MethodName} {b2 : ByteArray} {ret2 : Option FieldType} {rm : Room} {As rest : List Value} {post : xPost} {mc ms : Nat} (ml : ML own idx y) (yv : YV y b2 nn ret2 np) (pc' : Nat) (hd : decode cc pc = .ok (.invokevirtual idx, 3)) (hp : pc + 3 = pc') (ct : Ctr l D Bs y b2 nn ret2 rm (.ref b :: As) sz kd rf M mc ms post)
    (hk : ∃ ci r, kd b = some (.inl ci) ∧ vwCl[ci]? = some r ∧ r.1 = y.cls) (hn : As.length = np) (hR : rm.frames + 1 ≤ R.frames ∧ 8 + (nn + 11) + rm.locals ≤ R.locals) (hm : rm.cells = mc ∧ rm.slots = ms) (hf : cells + mc ≤ R.cells ∧ slots + ms ≤ R.slots) (hw : (rest.map fun v => v.category).sum ≤ 8)
    (kk : ∀ (v : Option Value) (sz' : Nat) (kd' : xKd) (rf' : xRf) (M' : xM), post v sz' kd' rf' M' → G p l e R s m args below meth c D Bs nL (cells + mc) (slots + ms) Q sz' kd' rf' M' pc' ls (v.toList ++ rest)) : G p l e R s m args below meth c D Bs nL cells slots Q sz kd rf M pc ls (As.reverse ++ .ref b :: rest) := by
  refine G.call0 hp (a := (Value.ref b :: As).toArray) (fun H locs la hW hs => ?_) kk
  obtain ⟨hx, hb, hml, hown, hts, hK, -, -⟩ := X
  have S : CallFix p m c cc nL s args gw own := ⟨hx, hb, hml, hown, hts⟩
  obtain ⟨⟨hcode, hini, hy, hpd, -⟩, hinst, hsel⟩ := yv
  have hG := gw_cons hcode
  have hlen := xR_of hpd
  have hpre : PreV s H y.cls b (xP D Bs (.ref b :: As) sz kd rf M) As := by
    refine ⟨xP_blind, ?_, fun U hU hWm => ⟨rfl, by rw [hU]; exact hW, hK.warm hWm⟩⟩
    obtain ⟨ci, r, h1, h2, h3⟩ := hk
    obtain ⟨C, T, N⟩ := r
    obtain ⟨cell, q1, q2, q3, -⟩ := (hW.2.2.1 b _ h1).2.obj h2
    exact ⟨cell, q1, by rw [q3]; rfl, by rw [← h3, q2]; exact (hK.1.1 ci _ h2).2.1⟩
  rcases ml with ml | ⟨host, ml⟩
  · exact va_runV S ct ⟨⟨hm.1, hm.2, hR.1, hR.2, pay_in hts hG, List.mem_cons_self, hts _ hcode, hts _ hini, hy, hlen, hts _ ml⟩, hts _ hinst, hts _ hsel⟩ hpre rfl hn hs rfl (lv_room hw) hd hf
  · exact va_runVN S ct ⟨⟨⟨hm.1, hm.2, hR.1, hR.2, pay_in hts hG, List.mem_cons_self⟩, hts _ hcode, hts _ hini, hy, hlen, va_Nw.use rfl (hK.2.1 _ ml)⟩, hts _ hinst, hts _ hsel⟩ hpre rfl hn hs rfl (lv_room hw) hd hf
theorem G.callS (X : Cx p s m meth c args cc nL own ret D) {idx np nn : Nat} {y : MethodName} {b2 : ByteArray} {ret2 : Option FieldType} {rm : Room} {As rest : List Value} {post : xPost} {mc ms : Nat} (ml : ML own idx y) (yv : YS y b2 nn ret2 np) (pc' : Nat) (hd : decode cc pc = .ok (.invokestatic idx, 3)) (hp : pc + 3 = pc') (ct : Ctr l D Bs y b2 nn ret2 rm As sz kd rf M mc ms post)
    (hn : As.length = np) (hR : rm.frames + 1 ≤ R.frames ∧ 8 + (nn + 11) + rm.locals ≤ R.locals) (hm : rm.cells = mc ∧ rm.slots = ms) (hf : cells + mc ≤ R.cells ∧ slots + ms ≤ R.slots) (hw : (rest.map fun v => v.category).sum ≤ 8)
    (kk : ∀ (v : Option Value) (sz' : Nat) (kd' : xKd) (rf' : xRf) (M' : xM), post v sz' kd' rf' M' → G p l e R s m args below meth c D Bs nL (cells + mc) (slots + ms) Q sz' kd' rf' M' pc' ls (v.toList ++ rest)) : G p l e R s m args below meth c D Bs nL cells slots Q sz kd rf M pc ls (As.reverse ++ rest) := by
  refine G.call0 hp (a := As.toArray) (fun H locs la hW hs => ?_) kk
  obtain ⟨hx, hb, hml, hown, hts, hK, -, -⟩ := X
  have S : CallFix p m c cc nL s args gw own := ⟨hx, hb, hml, hown, hts⟩
  obtain ⟨⟨hcode, hini, hy, hpd, -⟩, hstt⟩ := yv
  have hG := gw_cons hcode
  have hlen := xR_of hpd
  have hpre : PreS s H (xP D Bs As sz kd rf M) As := ⟨xP_blind, fun U hU hWm => ⟨rfl, by rw [hU]; exact hW, hK.warm hWm⟩⟩
  rcases ml with ml | ⟨host, ml⟩
  · exact va_runS S ct ⟨⟨hm.1, hm.2, hR.1, hR.2, pay_in hts hG, List.mem_cons_self, hts _ hcode, hts _ hini, hy, hlen, hts _ ml⟩, hts _ hstt⟩ hpre rfl hn hs rfl (lv_room hw) hd hf
  · exact va_runSN S ct ⟨⟨⟨hm.1, hm.2, hR.1, hR.2, pay_in hts hG, List.mem_cons_self⟩, hts _ hcode, hts _ hini, hy, hlen, va_Nw.use rfl (hK.2.1 _ ml)⟩, hts _ hstt, trivial⟩ hpre rfl hn hs rfl (lv_room hw) hd hf
theorem G.callI (X : Cx p s m meth c args cc nL own ret D) {idx np nn b : Nat} {y : MethodName} {b2 : ByteArray} {rm : Room} {As rest : List Value} {post : xPost} {mc ms : Nat} (ml : ML own idx y) (yv : YI y b2 nn np) (pc' : Nat) (hd : decode cc pc = .ok (.invokespecial idx, 3)) (hp : pc + 3 = pc') (ct : Ctr l D Bs y b2 nn none rm (.ref b :: As) sz kd rf M mc ms post)
    (hn : As.length = np) (hR : rm.frames + 1 ≤ R.frames ∧ 8 + (nn + 11) + rm.locals ≤ R.locals) (hm : rm.cells = mc ∧ rm.slots = ms) (hf : cells + mc ≤ R.cells ∧ slots + ms ≤ R.slots) (hw : (rest.map fun v => v.category).sum ≤ 8)
    (kk : ∀ (v : Option Value) (sz' : Nat) (kd' : xKd) (rf' : xRf) (M' : xM), post v sz' kd' rf' M' → G p l e R s m args below meth c D Bs nL (cells + mc) (slots + ms) Q sz' kd' rf' M' pc' ls (v.toList ++ rest)) : G p l e R s m args below meth c D Bs nL cells slots Q sz kd rf M pc ls (As.reverse ++ .ref b :: rest) := by
  refine G.call0 hp (a := (Value.ref b :: As).toArray) (fun H locs la hW hs => ?_) kk
  obtain ⟨hx, hb, hml, hown, hts, hK, -, -⟩ := X
  have S : CallFix p m c cc nL s args gw own := ⟨hx, hb, hml, hown, hts⟩
  obtain ⟨⟨hcode, hini, hy, hpd, -⟩, hinst, hin⟩ := yv
  have hG := gw_cons hcode
  have hlen := xR_of hpd
  have hpre : PreS s H (xP D Bs (.ref b :: As) sz kd rf M) (.ref b :: As) := ⟨xP_blind, fun U hU hWm => ⟨rfl, by rw [hU]; exact hW, hK.warm hWm⟩⟩
  rcases ml with ml | ⟨host, ml⟩
  · exact va_runI S ct ⟨⟨hm.1, hm.2, hR.1, hR.2, pay_in hts hG, List.mem_cons_self, hts _ hcode, hts _ hini, hy, hlen, hts _ ml⟩, hin, hts _ hinst⟩ hpre rfl hn hs rfl (lv_room hw) hd hf
  · exact va_runIN S ct ⟨⟨⟨hm.1, hm.2, hR.1, hR.2, pay_in hts hG, List.mem_cons_self⟩, hts _ hcode, hts _ hini, hy, hlen, va_Nw.use rfl (hK.2.1 _ ml)⟩, hin, hts _ hinst⟩ hpre rfl hn hs rfl (lv_room hw) hd hf
theorem G.vI0 (X : Cx p s m meth c args cc nL own ret D) {idx nn b d : Nat} {y : MethodName} {b2 : ByteArray} {ret2 : Option FieldType} {rest : List Value} {P : Int → xM → Prop} (ml : ML own idx y) (yv : YV y b2 nn ret2 0) (pc' : Nat) (hd : decode cc pc = .ok (.invokevirtual idx, 3)) (hp : pc + 3 = pc') (ct : CtI l D Bs y b2 nn ret2 d [.ref b] sz kd rf M P) (hk : ∃ ci r, kd b = some (.inl ci) ∧ vwCl[ci]? = some r ∧ r.1 = y.cls) (hR : d + 1 ≤ R.frames ∧ 8 + (nn + 11) + 40 * d ≤ R.locals) (hf : cells ≤ R.cells ∧ slots ≤ R.slots) (hw : (rest.map fun v => v.category).sum ≤ 8)
    (kk : ∀ (r : Int) (M' : xM), P r M' → G p l e R s m args below meth c D Bs nL cells slots Q sz kd rf M' pc' ls (vi r :: rest)) : G p l e R s m args below meth c D Bs nL cells slots Q sz kd rf M pc ls (.ref b :: rest) :=
  G.callV X (As := []) (rest := rest) ml yv pc' hd hp ct hk rfl hR ⟨rfl, rfl⟩ hf hw (fun v sz' kd' rf' M' h => by obtain ⟨rfl, rfl, rfl, r, rfl, h⟩ := h; exact kk r M' h)
theorem G.vI1 (X : Cx p s m meth c args cc nL own ret D) {idx nn b d : Nat} {y : MethodName} {b2 : ByteArray} {ret2 : Option FieldType} {rest : List Value} {x1 : Value} {P : Int → xM → Prop} (ml : ML own idx y) (yv : YV y b2 nn ret2 1) (pc' : Nat) (hd : decode cc pc = .ok (.invokevirtual idx, 3)) (hp : pc + 3 = pc') (ct : CtI l D Bs y b2 nn ret2 d [.ref b, x1] sz kd rf M P) (hk : ∃ ci r, kd b = some (.inl ci) ∧ vwCl[ci]? = some r ∧ r.1 = y.cls) (hR : d + 1 ≤ R.frames ∧ 8 + (nn + 11) + 40 * d ≤ R.locals) (hf : cells ≤ R.cells ∧ slots ≤ R.slots) (hw : (rest.map fun v => v.category).sum ≤ 8)
    (kk : ∀ (r : Int) (M' : xM), P r M' → G p l e R s m args below meth c D Bs nL cells slots Q sz kd rf M' pc' ls (vi r :: rest)) : G p l e R s m args below meth c D Bs nL cells slots Q sz kd rf M pc ls (x1 :: .ref b :: rest) :=
  G.callV X (As := [x1]) (rest := rest) ml yv pc' hd hp ct hk rfl hR ⟨rfl, rfl⟩ hf hw (fun v sz' kd' rf' M' h => by obtain ⟨rfl, rfl, rfl, r, rfl, h⟩ := h; exact kk r M' h)
theorem G.vI2 (X : Cx p s m meth c args cc nL own ret D) {idx nn b d : Nat} {y : MethodName} {b2 : ByteArray} {ret2 : Option FieldType} {rest : List Value} {x1 x2 : Value} {P : Int → xM → Prop} (ml : ML own idx y) (yv : YV y b2 nn ret2 2) (pc' : Nat) (hd : decode cc pc = .ok (.invokevirtual idx, 3)) (hp : pc + 3 = pc') (ct : CtI l D Bs y b2 nn ret2 d [.ref b, x1, x2] sz kd rf M P) (hk : ∃ ci r, kd b = some (.inl ci) ∧ vwCl[ci]? = some r ∧ r.1 = y.cls) (hR : d + 1 ≤ R.frames ∧ 8 + (nn + 11) + 40 * d ≤ R.locals) (hf : cells ≤ R.cells ∧ slots ≤ R.slots) (hw : (rest.map fun v => v.category).sum ≤ 8)
    (kk : ∀ (r : Int) (M' : xM), P r M' → G p l e R s m args below meth c D Bs nL cells slots Q sz kd rf M' pc' ls (vi r :: rest)) : G p l e R s m args below meth c D Bs nL cells slots Q sz kd rf M pc ls (x2 :: x1 :: .ref b :: rest) :=
  G.callV X (As := [x1, x2]) (rest := rest) ml yv pc' hd hp ct hk rfl hR ⟨rfl, rfl⟩ hf hw (fun v sz' kd' rf' M' h => by obtain ⟨rfl, rfl, rfl, r, rfl, h⟩ := h; exact kk r M' h)
theorem G.vI3 (X : Cx p s m meth c args cc nL own ret D) {idx nn b d : Nat} {y : MethodName} {b2 : ByteArray} {ret2 : Option FieldType} {rest : List Value} {x1 x2 x3 : Value} {P : Int → xM → Prop} (ml : ML own idx y) (yv : YV y b2 nn ret2 3) (pc' : Nat) (hd : decode cc pc = .ok (.invokevirtual idx, 3)) (hp : pc + 3 = pc') (ct : CtI l D Bs y b2 nn ret2 d [.ref b, x1, x2, x3] sz kd rf M P) (hk : ∃ ci r, kd b = some (.inl ci) ∧ vwCl[ci]? = some r ∧ r.1 = y.cls) (hR : d + 1 ≤ R.frames ∧ 8 + (nn + 11) + 40 * d ≤ R.locals) (hf : cells ≤ R.cells ∧ slots ≤ R.slots) (hw : (rest.map fun v => v.category).sum ≤ 8)
    (kk : ∀ (r : Int) (M' : xM), P r M' → G p l e R s m args below meth c D Bs nL cells slots Q sz kd rf M' pc' ls (vi r :: rest)) : G p l e R s m args below meth c D Bs nL cells slots Q sz kd rf M pc ls (x3 :: x2 :: x1 :: .ref b :: rest) :=
  G.callV X (As := [x1, x2, x3]) (rest := rest) ml yv pc' hd hp ct hk rfl hR ⟨rfl, rfl⟩ hf hw (fun v sz' kd' rf' M' h => by obtain ⟨rfl, rfl, rfl, r, rfl, h⟩ := h; exact kk r M' h)
theorem G.vI4 (X : Cx p s m meth c args cc nL own ret D) {idx nn b d : Nat} {y : MethodName} {b2 : ByteArray} {ret2 : Option FieldType} {rest : List Value} {x1 x2 x3 x4 : Value} {P : Int → xM → Prop} (ml : ML own idx y) (yv : YV y b2 nn ret2 4) (pc' : Nat) (hd : decode cc pc = .ok (.invokevirtual idx, 3)) (hp : pc + 3 = pc') (ct : CtI l D Bs y b2 nn ret2 d [.ref b, x1, x2, x3, x4] sz kd rf M P) (hk : ∃ ci r, kd b = some (.inl ci) ∧ vwCl[ci]? = some r ∧ r.1 = y.cls) (hR : d + 1 ≤ R.frames ∧ 8 + (nn + 11) + 40 * d ≤ R.locals) (hf : cells ≤ R.cells ∧ slots ≤ R.slots) (hw : (rest.map fun v => v.category).sum ≤ 8)
    (kk : ∀ (r : Int) (M' : xM), P r M' → G p l e R s m args below meth c D Bs nL cells slots Q sz kd rf M' pc' ls (vi r :: rest)) : G p l e R s m args below meth c D Bs nL cells slots Q sz kd rf M pc ls (x4 :: x3 :: x2 :: x1 :: .ref b :: rest) :=
  G.callV X (As := [x1, x2, x3, x4]) (rest := rest) ml yv pc' hd hp ct hk rfl hR ⟨rfl, rfl⟩ hf hw (fun v sz' kd' rf' M' h => by obtain ⟨rfl, rfl, rfl, r, rfl, h⟩ := h; exact kk r M' h)
theorem G.sI2 (X : Cx p s m meth c args cc nL own ret D) {idx nn d : Nat} {y : MethodName} {b2 : ByteArray} {ret2 : Option FieldType} {rest : List Value} {x1 x2 : Value} {P : Int → xM → Prop} (ml : ML own idx y) (yv : YS y b2 nn ret2 2) (pc' : Nat) (hd : decode cc pc = .ok (.invokestatic idx, 3)) (hp : pc + 3 = pc') (ct : CtI l D Bs y b2 nn ret2 d [x1, x2] sz kd rf M P) (hR : d + 1 ≤ R.frames ∧ 8 + (nn + 11) + 40 * d ≤ R.locals) (hf : cells ≤ R.cells ∧ slots ≤ R.slots) (hw : (rest.map fun v => v.category).sum ≤ 8)
    (kk : ∀ (r : Int) (M' : xM), P r M' → G p l e R s m args below meth c D Bs nL cells slots Q sz kd rf M' pc' ls (vi r :: rest)) : G p l e R s m args below meth c D Bs nL cells slots Q sz kd rf M pc ls (x2 :: x1 :: rest) :=
  G.callS X (As := [x1, x2]) (rest := rest) ml yv pc' hd hp ct rfl hR ⟨rfl, rfl⟩ hf hw (fun v sz' kd' rf' M' h => by obtain ⟨rfl, rfl, rfl, r, rfl, h⟩ := h; exact kk r M' h)
theorem G.sI3 (X : Cx p s m meth c args cc nL own ret D) {idx nn d : Nat} {y : MethodName} {b2 : ByteArray} {ret2 : Option FieldType} {rest : List Value} {x1 x2 x3 : Value} {P : Int → xM → Prop} (ml : ML own idx y) (yv : YS y b2 nn ret2 3) (pc' : Nat) (hd : decode cc pc = .ok (.invokestatic idx, 3)) (hp : pc + 3 = pc') (ct : CtI l D Bs y b2 nn ret2 d [x1, x2, x3] sz kd rf M P) (hR : d + 1 ≤ R.frames ∧ 8 + (nn + 11) + 40 * d ≤ R.locals) (hf : cells ≤ R.cells ∧ slots ≤ R.slots) (hw : (rest.map fun v => v.category).sum ≤ 8)
    (kk : ∀ (r : Int) (M' : xM), P r M' → G p l e R s m args below meth c D Bs nL cells slots Q sz kd rf M' pc' ls (vi r :: rest)) : G p l e R s m args below meth c D Bs nL cells slots Q sz kd rf M pc ls (x3 :: x2 :: x1 :: rest) :=
  G.callS X (As := [x1, x2, x3]) (rest := rest) ml yv pc' hd hp ct rfl hR ⟨rfl, rfl⟩ hf hw (fun v sz' kd' rf' M' h => by obtain ⟨rfl, rfl, rfl, r, rfl, h⟩ := h; exact kk r M' h)
theorem G.vV0 (X : Cx p s m meth c args cc nL own ret D) {idx nn b d : Nat} {y : MethodName} {b2 : ByteArray} {ret2 : Option FieldType} {rest : List Value} {P : xM → Prop} (ml : ML own idx y) (yv : YV y b2 nn ret2 0) (pc' : Nat) (hd : decode cc pc = .ok (.invokevirtual idx, 3)) (hp : pc + 3 = pc') (ct : CtV l D Bs y b2 nn ret2 d [.ref b] sz kd rf M P) (hk : ∃ ci r, kd b = some (.inl ci) ∧ vwCl[ci]? = some r ∧ r.1 = y.cls) (hR : d + 1 ≤ R.frames ∧ 8 + (nn + 11) + 40 * d ≤ R.locals) (hf : cells ≤ R.cells ∧ slots ≤ R.slots) (hw : (rest.map fun v => v.category).sum ≤ 8)
    (kk : ∀ M' : xM, P M' → G p l e R s m args below meth c D Bs nL cells slots Q sz kd rf M' pc' ls rest) : G p l e R s m args below meth c D Bs nL cells slots Q sz kd rf M pc ls (.ref b :: rest) :=
  G.callV X (As := []) (rest := rest) ml yv pc' hd hp ct hk rfl hR ⟨rfl, rfl⟩ hf hw (fun v sz' kd' rf' M' h => by obtain ⟨rfl, rfl, rfl, rfl, h⟩ := h; exact kk M' h)
theorem G.vV1 (X : Cx p s m meth c args cc nL own ret D) {idx nn b d : Nat} {y : MethodName} {b2 : ByteArray} {ret2 : Option FieldType} {rest : List Value} {x1 : Value} {P : xM → Prop} (ml : ML own idx y) (yv : YV y b2 nn ret2 1) (pc' : Nat) (hd : decode cc pc = .ok (.invokevirtual idx, 3)) (hp : pc + 3 = pc') (ct : CtV l D Bs y b2 nn ret2 d [.ref b, x1] sz kd rf M P) (hk : ∃ ci r, kd b = some (.inl ci) ∧ vwCl[ci]? = some r ∧ r.1 = y.cls) (hR : d + 1 ≤ R.frames ∧ 8 + (nn + 11) + 40 * d ≤ R.locals) (hf : cells ≤ R.cells ∧ slots ≤ R.slots) (hw : (rest.map fun v => v.category).sum ≤ 8)
    (kk : ∀ M' : xM, P M' → G p l e R s m args below meth c D Bs nL cells slots Q sz kd rf M' pc' ls rest) : G p l e R s m args below meth c D Bs nL cells slots Q sz kd rf M pc ls (x1 :: .ref b :: rest) :=
  G.callV X (As := [x1]) (rest := rest) ml yv pc' hd hp ct hk rfl hR ⟨rfl, rfl⟩ hf hw (fun v sz' kd' rf' M' h => by obtain ⟨rfl, rfl, rfl, rfl, h⟩ := h; exact kk M' h)
theorem G.vV2 (X : Cx p s m meth c args cc nL own ret D) {idx nn b d : Nat} {y : MethodName} {b2 : ByteArray} {ret2 : Option FieldType} {rest : List Value} {x1 x2 : Value} {P : xM → Prop} (ml : ML own idx y) (yv : YV y b2 nn ret2 2) (pc' : Nat) (hd : decode cc pc = .ok (.invokevirtual idx, 3)) (hp : pc + 3 = pc') (ct : CtV l D Bs y b2 nn ret2 d [.ref b, x1, x2] sz kd rf M P) (hk : ∃ ci r, kd b = some (.inl ci) ∧ vwCl[ci]? = some r ∧ r.1 = y.cls) (hR : d + 1 ≤ R.frames ∧ 8 + (nn + 11) + 40 * d ≤ R.locals) (hf : cells ≤ R.cells ∧ slots ≤ R.slots) (hw : (rest.map fun v => v.category).sum ≤ 8)
    (kk : ∀ M' : xM, P M' → G p l e R s m args below meth c D Bs nL cells slots Q sz kd rf M' pc' ls rest) : G p l e R s m args below meth c D Bs nL cells slots Q sz kd rf M pc ls (x2 :: x1 :: .ref b :: rest) :=
  G.callV X (As := [x1, x2]) (rest := rest) ml yv pc' hd hp ct hk rfl hR ⟨rfl, rfl⟩ hf hw (fun v sz' kd' rf' M' h => by obtain ⟨rfl, rfl, rfl, rfl, h⟩ := h; exact kk M' h)
theorem G.vV3 (X : Cx p s m meth c args cc nL own ret D) {idx nn b d : Nat} {y : MethodName} {b2 : ByteArray} {ret2 : Option FieldType} {rest : List Value} {x1 x2 x3 : Value} {P : xM → Prop} (ml : ML own idx y) (yv : YV y b2 nn ret2 3) (pc' : Nat) (hd : decode cc pc = .ok (.invokevirtual idx, 3)) (hp : pc + 3 = pc') (ct : CtV l D Bs y b2 nn ret2 d [.ref b, x1, x2, x3] sz kd rf M P) (hk : ∃ ci r, kd b = some (.inl ci) ∧ vwCl[ci]? = some r ∧ r.1 = y.cls) (hR : d + 1 ≤ R.frames ∧ 8 + (nn + 11) + 40 * d ≤ R.locals) (hf : cells ≤ R.cells ∧ slots ≤ R.slots) (hw : (rest.map fun v => v.category).sum ≤ 8)
    (kk : ∀ M' : xM, P M' → G p l e R s m args below meth c D Bs nL cells slots Q sz kd rf M' pc' ls rest) : G p l e R s m args below meth c D Bs nL cells slots Q sz kd rf M pc ls (x3 :: x2 :: x1 :: .ref b :: rest) :=
  G.callV X (As := [x1, x2, x3]) (rest := rest) ml yv pc' hd hp ct hk rfl hR ⟨rfl, rfl⟩ hf hw (fun v sz' kd' rf' M' h => by obtain ⟨rfl, rfl, rfl, rfl, h⟩ := h; exact kk M' h)
theorem G.vV4 (X : Cx p s m meth c args cc nL own ret D) {idx nn b d : Nat} {y : MethodName} {b2 : ByteArray} {ret2 : Option FieldType} {rest : List Value} {x1 x2 x3 x4 : Value} {P : xM → Prop} (ml : ML own idx y) (yv : YV y b2 nn ret2 4) (pc' : Nat) (hd : decode cc pc = .ok (.invokevirtual idx, 3)) (hp : pc + 3 = pc') (ct : CtV l D Bs y b2 nn ret2 d [.ref b, x1, x2, x3, x4] sz kd rf M P) (hk : ∃ ci r, kd b = some (.inl ci) ∧ vwCl[ci]? = some r ∧ r.1 = y.cls) (hR : d + 1 ≤ R.frames ∧ 8 + (nn + 11) + 40 * d ≤ R.locals) (hf : cells ≤ R.cells ∧ slots ≤ R.slots) (hw : (rest.map fun v => v.category).sum ≤ 8)
    (kk : ∀ M' : xM, P M' → G p l e R s m args below meth c D Bs nL cells slots Q sz kd rf M' pc' ls rest) : G p l e R s m args below meth c D Bs nL cells slots Q sz kd rf M pc ls (x4 :: x3 :: x2 :: x1 :: .ref b :: rest) :=
  G.callV X (As := [x1, x2, x3, x4]) (rest := rest) ml yv pc' hd hp ct hk rfl hR ⟨rfl, rfl⟩ hf hw (fun v sz' kd' rf' M' h => by obtain ⟨rfl, rfl, rfl, rfl, h⟩ := h; exact kk M' h)
theorem G.vR1 (X : Cx p s m meth c args cc nL own ret D) {idx nn b d : Nat} {y : MethodName} {b2 : ByteArray} {ret2 : Option FieldType} {rest : List Value} {x1 : Value} {P : Value → xM → Prop} (ml : ML own idx y) (yv : YV y b2 nn ret2 1) (pc' : Nat) (hd : decode cc pc = .ok (.invokevirtual idx, 3)) (hp : pc + 3 = pc') (ct : CtR l D Bs y b2 nn ret2 d [.ref b, x1] sz kd rf M P) (hk : ∃ ci r, kd b = some (.inl ci) ∧ vwCl[ci]? = some r ∧ r.1 = y.cls) (hR : d + 1 ≤ R.frames ∧ 8 + (nn + 11) + 40 * d ≤ R.locals) (hf : cells ≤ R.cells ∧ slots ≤ R.slots) (hw : (rest.map fun v => v.category).sum ≤ 8)
    (kk : ∀ (r : Value) (M' : xM), P r M' → G p l e R s m args below meth c D Bs nL cells slots Q sz kd rf M' pc' ls (r :: rest)) : G p l e R s m args below meth c D Bs nL cells slots Q sz kd rf M pc ls (x1 :: .ref b :: rest) :=
  G.callV X (As := [x1]) (rest := rest) ml yv pc' hd hp ct hk rfl hR ⟨rfl, rfl⟩ hf hw (fun v sz' kd' rf' M' h => by obtain ⟨rfl, rfl, rfl, r, rfl, h⟩ := h; exact kk r M' h)
theorem G.min (X : Cx p s m meth c args cc nL own ret D) {idx : Nat} {a b : Int} {rest : List Value} (ml : Cond.methodLink own idx Lib.Math.min.name ∈ gw) (pc' : Nat) (hd : decode cc pc = .ok (.invokestatic idx, 3)) (hp : pc + 3 = pc') (ra : -2147483648 ≤ a ∧ a ≤ 2147483647) (rb : -2147483648 ≤ b ∧ b ≤ 2147483647) (hR : 1 ≤ R.frames ∧ (rest.map fun v => v.category).sum + 13 ≤ R.locals) (hf : cells ≤ R.cells ∧ slots ≤ R.slots)
    (kk : G p l e R s m args below meth c D Bs nL cells slots Q sz kd rf M pc' ls (vi (if b < a then b else a) :: rest)) : G p l e R s m args below meth c D Bs nL cells slots Q sz kd rf M pc ls (vi b :: vi a :: rest) := by
  intro H locs la hW hS hL
  subst hp
  have kk := kk H locs la hW hS hL
  obtain ⟨hx, hb, hml, hown, hts, hK, -, -⟩ := X
  refine va_mmin hx hb (hml.trans hL.1.1.symm) hown (hts _ ml) (hts _ ys_min) (hts _ ini_J9) (hts _ yc_min) hR.1 hR.2 hf.1 hf.2 hd ?_
  have e : (if Int32.ofInt b < Int32.ofInt a then Int32.ofInt b else Int32.ofInt a) = Int32.ofInt (if b < a then b else a) := by
    by_cases h : b < a
    · rw [if_pos ((oI_lt rb ra).mpr h), if_pos h]
    · rw [if_neg (fun q => h ((oI_lt rb ra).mp q)), if_neg h]
  rw [e]
  exact kk
theorem G.abs (X : Cx p s m meth c args cc nL own ret D) {idx : Nat} {a : Int} {rest : List Value} (ml : Cond.methodLink own idx Lib.Math.abs.name ∈ gw) (pc' : Nat) (hd : decode cc pc = .ok (.invokestatic idx, 3)) (hp : pc + 3 = pc') (ra : -2147483648 ≤ a ∧ a ≤ 2147483647) (hR : 1 ≤ R.frames ∧ (rest.map fun v => v.category).sum + 13 ≤ R.locals) (hf : cells ≤ R.cells ∧ slots ≤ R.slots)
    (kk : G p l e R s m args below meth c D Bs nL cells slots Q sz kd rf M pc' ls (vi (if 0 ≤ a then a else -a) :: rest)) : G p l e R s m args below meth c D Bs nL cells slots Q sz kd rf M pc ls (vi a :: rest) := by
  intro H locs la hW hS hL
  subst hp
  have kk := kk H locs la hW hS hL
  obtain ⟨hx, hb, hml, hown, hts, hK, -, -⟩ := X
  refine va_mabs hx hb (hml.trans hL.1.1.symm) hown (hts _ ml) (hts _ ys_abs) (hts _ ini_J9) (hts _ yc_abs) hR.1 hR.2 hf.1 hf.2 hd ?_
  have Z0 : -2147483648 ≤ (0 : Int) ∧ (0 : Int) ≤ 2147483647 := by omega
  have e : (if 0 ≤ Int32.ofInt a then Int32.ofInt a else 0 - Int32.ofInt a) = Int32.ofInt (if 0 ≤ a then a else -a) := by
    rw [oI_0]
    by_cases h : 0 ≤ a
    · rw [if_pos ((oI_le Z0 ra).mpr h), if_pos h]
    · rw [if_neg (fun q => h ((oI_le Z0 ra).mp q)), if_neg h, ← Int32.ofInt_sub, Int.zero_sub]
  rw [e]
  exact kk
theorem G.objInit (X : Cx p s m meth c args cc nL own ret D) {idx a : Nat} {rest : List Value} (ml : Cond.methodLink own idx objectInit ∈ gw) (pc' : Nat) (hd : decode cc pc = .ok (.invokespecial idx, 3)) (hp : pc + 3 = pc') (hR : 1 ≤ R.frames ∧ (rest.map fun v => v.category).sum + 12 ≤ R.locals)
    (kk : G p l e R s m args below meth c D Bs nL cells slots Q sz kd rf M pc' ls rest) : G p l e R s m args below meth c D Bs nL cells slots Q sz kd rf M pc ls (.ref a :: rest) := by
  intro H locs la hW hS hL
  subst hp
  have kk := kk H locs la hW hS hL
  obtain ⟨hx, hb, hml, hown, hts, hK, -, -⟩ := X
  exact W.objInit hx hb hown (hts _ ml) (hts _ oi_in) (hts _ oi_code) rfl (hL.1.1.trans hml.symm) rfl hd hR.1 (by show 2 * 0 + _ + 12 ≤ _; omega) kk
theorem G.iret (X : Cx p s m meth c args cc nL own (some .int) D) {post : xPost} {mc ms : Nat} {a : Int} (hd : decode cc pc = .ok (.ireturn, 1)) (hc : cells ≤ mc ∧ slots ≤ ms) (h : post (some (vi a)) sz kd rf M) : G p l e R s m args below meth c D Bs nL cells slots (MQ below (xQ D Bs post) args s mc ms (fun q => Bs ≤ q)) sz kd rf M pc ls [vi a] := by
  intro H locs la hW hS hL
  refine W.widen hc.1 hc.2 ?_
  obtain ⟨hx, hb, hml, hown, hts, hK, hr, hlocks⟩ := X
  exact W.iret hx hb hr (fun t ht hWm => ⟨⟨_, sz, kd, rf, M, rfl, h, by rw [ht]; exact hW⟩, hS.F ht⟩) hS.2.2 hd
theorem G.zret (X : Cx p s m meth c args cc nL own (some .boolean) D) {post : xPost} {mc ms : Nat} {a : Int} (hd : decode cc pc = .ok (.ireturn, 1)) (hc : cells ≤ mc ∧ slots ≤ ms) (h01 : a = 0 ∨ a = 1) (h : post (some (vi a)) sz kd rf M) : G p l e R s m args below meth c D Bs nL cells slots (MQ below (xQ D Bs post) args s mc ms (fun q => Bs ≤ q)) sz kd rf M pc ls [vi a] := by
  intro H locs la hW hS hL
  refine W.widen hc.1 hc.2 ?_
  obtain ⟨hx, hb, hml, hown, hts, hK, hr, hlocks⟩ := X
  exact W.zret hx hb hr (nar01 h01).1 (fun t ht hWm => ⟨⟨_, sz, kd, rf, M, rfl, h, by rw [ht]; exact hW⟩, hS.F ht⟩) hS.2.2 hd
theorem G.vret (X : Cx p s m meth c args cc nL own none D) {post : xPost} {mc ms : Nat} (hd : decode cc pc = .ok (.return_, 1)) (hc : cells ≤ mc ∧ slots ≤ ms) (h : post none sz kd rf M) : G p l e R s m args below meth c D Bs nL cells slots (MQ below (xQ D Bs post) args s mc ms (fun q => Bs ≤ q)) sz kd rf M pc ls [] := by
  intro H locs la hW hS hL
  refine W.widen hc.1 hc.2 ?_
  obtain ⟨hx, hb, hml, hown, hts, hK, hr, hlocks⟩ := X
  exact W.vret hx hb hr (fun t ht hWm => ⟨⟨_, sz, kd, rf, M, rfl, h, by rw [ht]; exact hW⟩, hS.F ht⟩) hS.2.2 hd
theorem G.aret {n : String} (X : Cx p s m meth c args cc nL own (some (.object n)) D) {post : xPost} {mc ms : Nat} {v : Value} (hd : decode cc pc = .ok (.areturn, 1)) (hc : cells ≤ mc ∧ slots ≤ ms) (hv : v = .null ∨ ∃ a, v = .ref a) (h : post (some v) sz kd rf M) : G p l e R s m args below meth c D Bs nL cells slots (MQ below (xQ D Bs post) args s mc ms (fun q => Bs ≤ q)) sz kd rf M pc ls [v] := by
  intro H locs la hW hS hL
  refine W.widen hc.1 hc.2 ?_
  obtain ⟨hx, hb, hml, hown, hts, hK, hr, hlocks⟩ := X
  exact W.aret hx hb hr (Or.inl ⟨_, rfl⟩) hv (fun t ht hWm => ⟨⟨_, sz, kd, rf, M, rfl, h, by rw [ht]; exact hW⟩, hS.F ht⟩) hS.2.2 hd
end GH
