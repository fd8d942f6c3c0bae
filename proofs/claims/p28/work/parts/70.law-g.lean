/-! THE CLAIM OUT OF ONE WALK OF THE LAW'S BODY. Your part is whole_start (and what it stands on); all else here is the same for every law, but numbers. -/
def R_law : String := "StormHireLaw"
def lw_P (b : Addr) (xs : List Int32) (args : Array Value) (s : State) : Prop := args = #[.ref b] ∧ s.IntsAt b xs ∧ xs.length ≤ 260 ∧ (Jvm.Cond.and given_1 narrow_1).before args s = true
def lw_Q (_ : Array Value) (s : State) (o : Outcome) (t : State) : Prop := o = .returned (some (.int 1)) ∧ Framed s o t [] 600000 7302250
def lw_Z (below : List Frame) (a : Array Value) (s : State) : State → Prop := fun t => ∃ o, t.status = .running ∧ Ended t below o ∧ lw_Q a s o t
/-- the law's own end, with 1 on the stack, nothing written that was there before, its room as the claim has it -/
theorem lw_ret {p : Program} {l : Launch} {e : Env} {s : State} {m : MethodId} {below : List Frame} {meth : Method} {c : Code} {b : Nat} (hx : p.tables.exec = Jvm.exec) (hb : c.code = code) (hr : meth.sig.returnType = ret) (hlocks : meth.locks = false) {pc : Nat} {H : Heap} {ls : Array Slot} (hdg : decode code pc = .ok (.ireturn, 1)) : W p l e room_1 s m #[Value.ref b] below meth c H [] 600000 7302250 (lw_Z below #[Value.ref b] s) (F0 m pc ls [.int 1]) := by
  intro T hT X
  obtain ⟨fs, hret, hrun, hended, hW, hframe⟩ := X.leave (v := some (.int 1)) (hlocks := hlocks) (fun h => by rw [hr] at h; cases h)
  have hmeth' : T.vm.method? m = some meth := X.method'
  refine ⟨T.setFrames fs, ?_, .returned (some (.int 1)), hrun, hended, rfl, ⟨_, rfl⟩, hW, hframe⟩
  jvm_step X.here [X.here.top, hx, hb, hdg, hmeth', hr, ret, narrow_b1]
  (try refine ⟨rfl, ?_⟩); (try refine ⟨rfl, ?_⟩)
  first | (intro acts; rw [hret _ acts rfl rfl rfl]) | rw [hret _ _ rfl rfl rfl]
  exact Steps.refl _
/-- what holds at the law's entry: the machine, the code, the tables' words (any of lw_tbl by 'hts w (by decide +kernel)'), the script of L ints xs at the cell b, what the Statement gives of the start (any of its parts by flat_of_before) -/
def lw_At (p : Program) (s : State) (m : MethodId) (meth : Method) (c : Code) (b L : Nat) (xs : Nat → Int32) : Prop :=
  p.tables.exec = Jvm.exec ∧ c.code = code ∧ meth.sig.returnType = ret ∧ c.maxLocals = 11 ∧ s.vm.findClass R_law = some m.cls ∧ (∀ w ∈ lw_tbl, w.before #[Value.ref b] s = true) ∧ va_X b L xs s s.heap ∧ b < s.heap.size ∧ meth.locks = false ∧ (Jvm.Cond.and given_1 narrow_1).before #[Value.ref b] s = true
abbrev LG (p : Program) (l : Launch) (e : Env) (s : State) (m : MethodId) (b : Nat) (below : List Frame) (meth : Method) (c : Code) (D : xD) (sz : Nat) (kd : xKd) (rf : xRf) (M : xM) (pc : Nat) (ls : List (Option Value)) (st : List Value) : Prop := G p l e room_1 s m #[Value.ref b] below meth c D s.heap.size 11 215 2020 (lw_Z below #[Value.ref b] s) sz kd rf M pc ls st
theorem LG.done {p : Program} {l : Launch} {e : Env} {s : State} {m : MethodId} {b : Nat} {below : List Frame} {meth : Method} {c : Code} {D : xD} (X : Cx p s m meth c #[Value.ref b] code 11 RL ret D) {sz : Nat} {kd : xKd} {rf : xRf} {M : xM} {ls : List (Option Value)} : LG p l e s m b below meth c D sz kd rf M 411 ls [] := by
  refine G.iconst X 412 dL_law_411 rfl ?_
  intro H locs la hW hS hL
  obtain ⟨hx, hb, hml, hown, hts, hK, hr, hlocks⟩ := X
  have e1 : vi 1 = .int 1 := by decide
  rw [e1]
  refine va_forget (fun q hq => hS.2.2 q hq) ?_
  refine W.widen (k := 600000) (n := 7302250) (Nat.le_of_ble_eq_true rfl) (Nat.le_of_ble_eq_true rfl) ?_
  exact lw_ret hx hb hr hlocks dL_law_412
theorem Jr.init : Jr rowI := by
  refine ⟨Vr.init, fun i hi => ?_, fun i j hi => ?_, fun i j hj => ?_, fun j hj => ?_, rfl⟩
  · exact absurd hi (Nat.not_lt_zero i)
  · exact absurd hi (Nat.not_lt_zero i)
  · exact absurd hj (Nat.not_lt_zero j)
  · exact absurd hj (Nat.not_lt_zero j)
theorem Iw.init : Iw rowI [] none := ⟨Jr.init, fun q hq => absurd hq List.not_mem_nil, (fun q hq => by cases hq), Nat.zero_le 5⟩
set_option maxHeartbeats 2000000 in
set_option maxRecDepth 100000 in
theorem law_384 {p : Program} {l : Launch} {e : Env} {s : State} {m : MethodId} {b : Nat} {below : List Frame} {meth : Method} {c : Code} {D : xD} (X : Cx p s m meth c #[Value.ref b] code 11 RL ret D) {a sz : Nat} {kd : xKd} {rf : xRf} {i : Nat} (next : ∀ (M : xM) (r : xR) (h : List xR) (sn : Option xR), Ob kd rf a M r h sn → LG p l e s m b below meth c D sz kd rf M 86 [some (.ref b), some (.ref a), some (vi ((i + 1 : Nat) : Int)), none, none, none, none, none, none, none, none] []) {g w so q z : Int} {x : Int64} {M : xM} {r : xR} {h : List xR} {sn : Option xR} (hO : Ob kd rf a M r h sn) : LG p l e s m b below meth c D sz kd rf M 384 [some (.ref b), some (.ref a), some (vi (i : Int)), some (vi g), some (vi w), some (vi so), some (vi q), some (.long x), none, some (vi 1), some (vi z)] [] := by
  refine G.iload X 386 dL_law_384 rfl rfl ?_
  refine G.if_eq X 403 389 dL_law_386 (by decide) rfl (by omega) (fun hc386 => by exact absurd hc386 (by decide)) (fun hc386 => ?_)
  refine G.aload_n X 390 dL_law_389 rfl rfl ?_
  refine G.sI1 (d := 7) X ml_L_124 ys_L_sets 393 dL_law_390 rfl (c_L_sets l D s.heap.size sz kd rf _ a _ _ _ hO) (by decide) ⟨Nat.le_of_ble_eq_true rfl, Nat.le_of_ble_eq_true rfl⟩ (Nat.le_of_ble_eq_true rfl) (fun q390 M h390 => ?_)
  obtain ⟨e390, hO⟩ := h390
  rw [e390]
  refine G.if_eq X 403 396 dL_law_393 (by decide) rfl (by omega) (fun hc393 => by exact absurd hc393 (by decide)) (fun hc393 => ?_)
  refine G.aload_n X 397 dL_law_396 rfl rfl ?_
  refine G.sI1 (d := 7) X ml_L_128 ys_L_sites 400 dL_law_397 rfl (c_L_sites l D s.heap.size sz kd rf _ a _ _ _ hO) (by decide) ⟨Nat.le_of_ble_eq_true rfl, Nat.le_of_ble_eq_true rfl⟩ (Nat.le_of_ble_eq_true rfl) (fun q397 M h397 => ?_)
  obtain ⟨e397, hO⟩ := h397
  rw [e397]
  refine G.if_ne X 405 403 dL_law_400 (by decide) rfl (by omega) (fun hc400 => ?_) (fun hc400 => by exact absurd hc400 (by decide))
  refine G.iinc (ls' := [_, _, _, _, _, _, _, _, _, _, _]) X 408 dL_law_405 rfl rfl (by decide) rfl ?_
  refine G.goto X 86 dL_law_408 (by decide) ?_
  refine G.drop 3 ?_
  refine G.drop 4 ?_
  refine G.drop 5 ?_
  refine G.drop 6 ?_
  refine G.drop 7 ?_
  refine G.drop 9 ?_
  refine G.drop 10 ?_
  exact next M _ _ _ hO
set_option maxHeartbeats 2000000 in
set_option maxRecDepth 100000 in
theorem law_289 {p : Program} {l : Launch} {e : Env} {s : State} {m : MethodId} {b : Nat} {below : List Frame} {meth : Method} {c : Code} {D : xD} (X : Cx p s m meth c #[Value.ref b] code 11 RL ret D) {a sz : Nat} {kd : xKd} {rf : xRf} {i : Nat} (next : ∀ (M : xM) (r : xR) (h : List xR) (sn : Option xR), Ob kd rf a M r h sn → LG p l e s m b below meth c D sz kd rf M 86 [some (.ref b), some (.ref a), some (vi ((i + 1 : Nat) : Int)), none, none, none, none, none, none, none, none] []) {g w so : Int} {M : xM} {r r1 : xR} {h h1 : List xR} {sn sn1 : Option xR} (hso : 0 ≤ so ∧ so ≤ 19) (hg : IR g) (hw : IR w) (hlen : h.length ≤ 5) (hinfo : (13 ≤ so ∧ so ≤ 16) ∨ Rl r h r1 h1 ∧ sn1 = sn) (hO : Ob kd rf a M r1 h1 sn1) : LG p l e s m b below meth c D sz kd rf M 289 [some (.ref b), some (.ref a), some (vi (i : Int)), some (vi g), some (vi w), some (vi so), some (vi (h.length : Int)), some (.long (dgF r)), none, some (vi 1), none] [] := by
  by_cases hl5 : h.length = 5
  · skip
    refine G.iload X 291 dL_law_289 rfl rfl ?_
    rcases (by omega : so < 13 ∨ (13 ≤ so ∧ so ≤ 16) ∨ 16 < so) with e1 | e1 | e1
    · obtain ⟨hRl, hsn⟩ := hinfo.resolve_left (by omega)
      subst hsn
      refine G.iconst X 292 dL_law_291 rfl ?_
      refine G.icmp_ne X 299 295 dL_law_292 (by decide) rfl (by omega) (by omega) (fun hc292 => by exfalso; omega) (fun hc292 => ?_)
      refine G.iconst X 296 dL_law_295 rfl ?_
      refine G.goto X 301 dL_law_296 (by decide) ?_
      refine G.istore (ls' := [_, _, _, _, _, _, _, _, _, _, _]) X 303 dL_law_301 rfl (by decide) rfl ?_
      refine G.iload X 305 dL_law_303 rfl rfl ?_
      refine G.if_eq X 384 308 dL_law_305 (by decide) rfl (by omega) (fun hc305 => by exact absurd hc305 (by decide)) (fun hc305 => ?_)
      refine G.iload X 310 dL_law_308 rfl rfl ?_
      refine G.bipush X 312 dL_law_310 rfl (by decide) ?_
      refine G.icmp_lt X 322 315 dL_law_312 (by decide) rfl (by omega) (by omega) (fun hc312 => ?_) (fun hc312 => by exfalso; omega)
      rcases hRl with ⟨er, eh⟩ | eh
      · subst er
        subst eh
        refine G.iload X 324 dL_law_322 rfl rfl ?_
        refine G.sipush X 327 dL_law_324 rfl (by decide) ?_
        refine G.iandX X 328 dL_law_327 rfl (fun y327 hy327 => ?_)
        refine G.if_ne X 384 331 dL_law_328 (by decide) rfl (by omega) (fun hc328 => ?_) (fun hc328 => ?_)
        · exact law_384 X next hO
        · refine G.aload_n X 332 dL_law_331 rfl rfl ?_
          refine G.bipush X 334 dL_law_332 rfl (by decide) ?_
          refine GS.count X hO ml_L_13 337 dL_law_334 rfl (cnt_15) (by decide) (by decide) ⟨Nat.le_of_ble_eq_true rfl, Nat.le_of_ble_eq_true rfl⟩ (Nat.le_of_ble_eq_true rfl) (fun M hO => ?_)
          refine G.iload X 339 dL_law_337 rfl rfl ?_
          refine G.neF X 342 dL_law_339 358 (by decide) rfl (rfl) ?_
          refine G.iload X 344 dL_law_342 rfl rfl ?_
          refine G.iconst X 345 dL_law_344 rfl ?_
          refine G.icmp_ne X 384 348 dL_law_345 (by decide) rfl (by omega) (by omega) (fun hc345 => by exfalso; omega) (fun hc345 => ?_)
          refine G.aload_n X 349 dL_law_348 rfl rfl ?_
          refine G.sJ1 (d := 7) X ml_L_93 ys_L_digest 352 dL_law_349 rfl (c_L_digest l D s.heap.size sz kd rf _ a _ _ _ hO) (by decide) ⟨Nat.le_of_ble_eq_true rfl, Nat.le_of_ble_eq_true rfl⟩ (Nat.le_of_ble_eq_true rfl) (fun x349 M h349 => ?_)
          obtain ⟨e349, hO⟩ := h349
          rw [e349]
          refine G.lload X 354 dL_law_352 rfl rfl ?_
          refine G.lcmp X 355 dL_law_354 rfl (fun z354 hz354 hy354 => ?_)
          have hz := hy354 rfl
          refine G.if_eq X 384 358 dL_law_355 (by decide) rfl (by omega) (fun hc355 => ?_) (fun hc355 => by exfalso; omega)
          exact law_384 X next hO
      · have e5 : (r :: h).take 5 = r :: h.take 4 := rfl
        rw [e5] at eh
        subst eh
        have hln : (r :: h.take 4).length = min 4 h.length + 1 := by rw [List.length_cons, List.length_take]
        refine G.iload X 324 dL_law_322 rfl rfl ?_
        refine G.sipush X 327 dL_law_324 rfl (by decide) ?_
        refine G.iandX X 328 dL_law_327 rfl (fun y327 hy327 => ?_)
        refine G.if_ne X 384 331 dL_law_328 (by decide) rfl (by omega) (fun hc328 => ?_) (fun hc328 => ?_)
        · exact law_384 X next hO
        · refine G.aload_n X 332 dL_law_331 rfl rfl ?_
          refine G.bipush X 334 dL_law_332 rfl (by decide) ?_
          refine GS.count X hO ml_L_13 337 dL_law_334 rfl (cnt_15) (by decide) (by decide) ⟨Nat.le_of_ble_eq_true rfl, Nat.le_of_ble_eq_true rfl⟩ (Nat.le_of_ble_eq_true rfl) (fun M hO => ?_)
          refine G.iload X 339 dL_law_337 rfl rfl ?_
          refine G.icmp_ne X 358 342 dL_law_339 (by decide) rfl (by omega) (by omega) (fun hc339 => by exfalso; omega) (fun hc339 => ?_)
          refine G.iload X 344 dL_law_342 rfl rfl ?_
          refine G.iconst X 345 dL_law_344 rfl ?_
          refine G.icmp_ne X 384 348 dL_law_345 (by decide) rfl (by omega) (by omega) (fun hc345 => by exfalso; omega) (fun hc345 => ?_)
          refine G.aload_n X 349 dL_law_348 rfl rfl ?_
          refine G.sJ1 (d := 7) X ml_L_93 ys_L_digest 352 dL_law_349 rfl (c_L_digest l D s.heap.size sz kd rf _ a _ _ _ hO) (by decide) ⟨Nat.le_of_ble_eq_true rfl, Nat.le_of_ble_eq_true rfl⟩ (Nat.le_of_ble_eq_true rfl) (fun x349 M h349 => ?_)
          obtain ⟨e349, hO⟩ := h349
          rw [e349]
          refine G.lload X 354 dL_law_352 rfl rfl ?_
          refine G.lcmp X 355 dL_law_354 rfl (fun z354 hz354 hy354 => ?_)
          refine G.if_eq X 384 358 dL_law_355 (by decide) rfl (by omega) (fun hc355 => ?_) (fun hc355 => ?_)
          · exact law_384 X next hO
          · refine G.aload_n X 359 dL_law_358 rfl rfl ?_
            refine GS.undo1 X hO ml_L_101 362 dL_law_359 rfl (by decide) ⟨Nat.le_of_ble_eq_true rfl, Nat.le_of_ble_eq_true rfl⟩ (Nat.le_of_ble_eq_true rfl) (fun M hO => ?_)
            refine G.iload X 364 dL_law_362 rfl rfl ?_
            refine G.neF X 367 dL_law_364 381 (by decide) rfl (by rw [List.length_take]; omega) ?_
            refine G.aload_n X 368 dL_law_367 rfl rfl ?_
            refine G.sJ1 (d := 7) X ml_L_93 ys_L_digest 371 dL_law_368 rfl (c_L_digest l D s.heap.size sz kd rf _ a _ _ _ hO) (by decide) ⟨Nat.le_of_ble_eq_true rfl, Nat.le_of_ble_eq_true rfl⟩ (Nat.le_of_ble_eq_true rfl) (fun x368 M h368 => ?_)
            obtain ⟨e368, hO⟩ := h368
            rw [e368]
            refine G.lload X 373 dL_law_371 rfl rfl ?_
            refine G.lcmp X 374 dL_law_373 rfl (fun z373 hz373 hy373 => ?_)
            have hz := hy373 rfl
            refine G.if_ne X 381 377 dL_law_374 (by decide) rfl (by omega) (fun hc374 => by exfalso; omega) (fun hc374 => ?_)
            refine G.iconst X 378 dL_law_377 rfl ?_
            refine G.goto X 382 dL_law_378 (by decide) ?_
            refine G.istore (ls' := [_, _, _, _, _, _, _, _, _, _, _]) X 384 dL_law_382 rfl (by decide) rfl ?_
            exact law_384 X next hO
    · skip
      refine G.iconst X 292 dL_law_291 rfl ?_
      refine G.icmp_ne X 299 295 dL_law_292 (by decide) rfl (by omega) (by omega) (fun hc292 => by exfalso; omega) (fun hc292 => ?_)
      refine G.iconst X 296 dL_law_295 rfl ?_
      refine G.goto X 301 dL_law_296 (by decide) ?_
      refine G.istore (ls' := [_, _, _, _, _, _, _, _, _, _, _]) X 303 dL_law_301 rfl (by decide) rfl ?_
      refine G.iload X 305 dL_law_303 rfl rfl ?_
      refine G.if_eq X 384 308 dL_law_305 (by decide) rfl (by omega) (fun hc305 => by exact absurd hc305 (by decide)) (fun hc305 => ?_)
      refine G.iload X 310 dL_law_308 rfl rfl ?_
      refine G.bipush X 312 dL_law_310 rfl (by decide) ?_
      refine G.icmp_lt X 322 315 dL_law_312 (by decide) rfl (by omega) (by omega) (fun hc312 => by exfalso; omega) (fun hc312 => ?_)
      refine G.iload X 317 dL_law_315 rfl rfl ?_
      refine G.bipush X 319 dL_law_317 rfl (by decide) ?_
      refine G.icmp_le X 384 322 dL_law_319 (by decide) rfl (by omega) (by omega) (fun hc319 => ?_) (fun hc319 => by exfalso; omega)
      exact law_384 X next hO
    · obtain ⟨hRl, hsn⟩ := hinfo.resolve_left (by omega)
      subst hsn
      refine G.iconst X 292 dL_law_291 rfl ?_
      refine G.icmp_ne X 299 295 dL_law_292 (by decide) rfl (by omega) (by omega) (fun hc292 => by exfalso; omega) (fun hc292 => ?_)
      refine G.iconst X 296 dL_law_295 rfl ?_
      refine G.goto X 301 dL_law_296 (by decide) ?_
      refine G.istore (ls' := [_, _, _, _, _, _, _, _, _, _, _]) X 303 dL_law_301 rfl (by decide) rfl ?_
      refine G.iload X 305 dL_law_303 rfl rfl ?_
      refine G.if_eq X 384 308 dL_law_305 (by decide) rfl (by omega) (fun hc305 => by exact absurd hc305 (by decide)) (fun hc305 => ?_)
      refine G.iload X 310 dL_law_308 rfl rfl ?_
      refine G.bipush X 312 dL_law_310 rfl (by decide) ?_
      refine G.icmp_lt X 322 315 dL_law_312 (by decide) rfl (by omega) (by omega) (fun hc312 => by exfalso; omega) (fun hc312 => ?_)
      refine G.iload X 317 dL_law_315 rfl rfl ?_
      refine G.bipush X 319 dL_law_317 rfl (by decide) ?_
      refine G.icmp_le X 384 322 dL_law_319 (by decide) rfl (by omega) (by omega) (fun hc319 => by exfalso; omega) (fun hc319 => ?_)
      rcases hRl with ⟨er, eh⟩ | eh
      · subst er
        subst eh
        refine G.iload X 324 dL_law_322 rfl rfl ?_
        refine G.sipush X 327 dL_law_324 rfl (by decide) ?_
        refine G.iandX X 328 dL_law_327 rfl (fun y327 hy327 => ?_)
        refine G.if_ne X 384 331 dL_law_328 (by decide) rfl (by omega) (fun hc328 => ?_) (fun hc328 => ?_)
        · exact law_384 X next hO
        · refine G.aload_n X 332 dL_law_331 rfl rfl ?_
          refine G.bipush X 334 dL_law_332 rfl (by decide) ?_
          refine GS.count X hO ml_L_13 337 dL_law_334 rfl (cnt_15) (by decide) (by decide) ⟨Nat.le_of_ble_eq_true rfl, Nat.le_of_ble_eq_true rfl⟩ (Nat.le_of_ble_eq_true rfl) (fun M hO => ?_)
          refine G.iload X 339 dL_law_337 rfl rfl ?_
          refine G.neF X 342 dL_law_339 358 (by decide) rfl (rfl) ?_
          refine G.iload X 344 dL_law_342 rfl rfl ?_
          refine G.iconst X 345 dL_law_344 rfl ?_
          refine G.icmp_ne X 384 348 dL_law_345 (by decide) rfl (by omega) (by omega) (fun hc345 => by exfalso; omega) (fun hc345 => ?_)
          refine G.aload_n X 349 dL_law_348 rfl rfl ?_
          refine G.sJ1 (d := 7) X ml_L_93 ys_L_digest 352 dL_law_349 rfl (c_L_digest l D s.heap.size sz kd rf _ a _ _ _ hO) (by decide) ⟨Nat.le_of_ble_eq_true rfl, Nat.le_of_ble_eq_true rfl⟩ (Nat.le_of_ble_eq_true rfl) (fun x349 M h349 => ?_)
          obtain ⟨e349, hO⟩ := h349
          rw [e349]
          refine G.lload X 354 dL_law_352 rfl rfl ?_
          refine G.lcmp X 355 dL_law_354 rfl (fun z354 hz354 hy354 => ?_)
          have hz := hy354 rfl
          refine G.if_eq X 384 358 dL_law_355 (by decide) rfl (by omega) (fun hc355 => ?_) (fun hc355 => by exfalso; omega)
          exact law_384 X next hO
      · have e5 : (r :: h).take 5 = r :: h.take 4 := rfl
        rw [e5] at eh
        subst eh
        have hln : (r :: h.take 4).length = min 4 h.length + 1 := by rw [List.length_cons, List.length_take]
        refine G.iload X 324 dL_law_322 rfl rfl ?_
        refine G.sipush X 327 dL_law_324 rfl (by decide) ?_
        refine G.iandX X 328 dL_law_327 rfl (fun y327 hy327 => ?_)
        refine G.if_ne X 384 331 dL_law_328 (by decide) rfl (by omega) (fun hc328 => ?_) (fun hc328 => ?_)
        · exact law_384 X next hO
        · refine G.aload_n X 332 dL_law_331 rfl rfl ?_
          refine G.bipush X 334 dL_law_332 rfl (by decide) ?_
          refine GS.count X hO ml_L_13 337 dL_law_334 rfl (cnt_15) (by decide) (by decide) ⟨Nat.le_of_ble_eq_true rfl, Nat.le_of_ble_eq_true rfl⟩ (Nat.le_of_ble_eq_true rfl) (fun M hO => ?_)
          refine G.iload X 339 dL_law_337 rfl rfl ?_
          refine G.icmp_ne X 358 342 dL_law_339 (by decide) rfl (by omega) (by omega) (fun hc339 => by exfalso; omega) (fun hc339 => ?_)
          refine G.iload X 344 dL_law_342 rfl rfl ?_
          refine G.iconst X 345 dL_law_344 rfl ?_
          refine G.icmp_ne X 384 348 dL_law_345 (by decide) rfl (by omega) (by omega) (fun hc345 => by exfalso; omega) (fun hc345 => ?_)
          refine G.aload_n X 349 dL_law_348 rfl rfl ?_
          refine G.sJ1 (d := 7) X ml_L_93 ys_L_digest 352 dL_law_349 rfl (c_L_digest l D s.heap.size sz kd rf _ a _ _ _ hO) (by decide) ⟨Nat.le_of_ble_eq_true rfl, Nat.le_of_ble_eq_true rfl⟩ (Nat.le_of_ble_eq_true rfl) (fun x349 M h349 => ?_)
          obtain ⟨e349, hO⟩ := h349
          rw [e349]
          refine G.lload X 354 dL_law_352 rfl rfl ?_
          refine G.lcmp X 355 dL_law_354 rfl (fun z354 hz354 hy354 => ?_)
          refine G.if_eq X 384 358 dL_law_355 (by decide) rfl (by omega) (fun hc355 => ?_) (fun hc355 => ?_)
          · exact law_384 X next hO
          · refine G.aload_n X 359 dL_law_358 rfl rfl ?_
            refine GS.undo1 X hO ml_L_101 362 dL_law_359 rfl (by decide) ⟨Nat.le_of_ble_eq_true rfl, Nat.le_of_ble_eq_true rfl⟩ (Nat.le_of_ble_eq_true rfl) (fun M hO => ?_)
            refine G.iload X 364 dL_law_362 rfl rfl ?_
            refine G.neF X 367 dL_law_364 381 (by decide) rfl (by rw [List.length_take]; omega) ?_
            refine G.aload_n X 368 dL_law_367 rfl rfl ?_
            refine G.sJ1 (d := 7) X ml_L_93 ys_L_digest 371 dL_law_368 rfl (c_L_digest l D s.heap.size sz kd rf _ a _ _ _ hO) (by decide) ⟨Nat.le_of_ble_eq_true rfl, Nat.le_of_ble_eq_true rfl⟩ (Nat.le_of_ble_eq_true rfl) (fun x368 M h368 => ?_)
            obtain ⟨e368, hO⟩ := h368
            rw [e368]
            refine G.lload X 373 dL_law_371 rfl rfl ?_
            refine G.lcmp X 374 dL_law_373 rfl (fun z373 hz373 hy373 => ?_)
            have hz := hy373 rfl
            refine G.if_ne X 381 377 dL_law_374 (by decide) rfl (by omega) (fun hc374 => by exfalso; omega) (fun hc374 => ?_)
            refine G.iconst X 378 dL_law_377 rfl ?_
            refine G.goto X 382 dL_law_378 (by decide) ?_
            refine G.istore (ls' := [_, _, _, _, _, _, _, _, _, _, _]) X 384 dL_law_382 rfl (by decide) rfl ?_
            exact law_384 X next hO
  · skip
    refine G.iload X 291 dL_law_289 rfl rfl ?_
    rcases (by omega : so < 13 ∨ (13 ≤ so ∧ so ≤ 16) ∨ 16 < so) with e1 | e1 | e1
    · obtain ⟨hRl, hsn⟩ := hinfo.resolve_left (by omega)
      subst hsn
      refine G.iconst X 292 dL_law_291 rfl ?_
      refine G.icmp_ne X 299 295 dL_law_292 (by decide) rfl (by omega) (by omega) (fun hc292 => ?_) (fun hc292 => by exfalso; omega)
      refine G.iload X 301 dL_law_299 rfl rfl ?_
      refine G.istore (ls' := [_, _, _, _, _, _, _, _, _, _, _]) X 303 dL_law_301 rfl (by decide) rfl ?_
      refine G.iload X 305 dL_law_303 rfl rfl ?_
      refine G.if_eq X 384 308 dL_law_305 (by decide) rfl (by omega) (fun hc305 => by exact absurd hc305 (by decide)) (fun hc305 => ?_)
      refine G.iload X 310 dL_law_308 rfl rfl ?_
      refine G.bipush X 312 dL_law_310 rfl (by decide) ?_
      refine G.icmp_lt X 322 315 dL_law_312 (by decide) rfl (by omega) (by omega) (fun hc312 => ?_) (fun hc312 => by exfalso; omega)
      rcases hRl with ⟨er, eh⟩ | eh
      · subst er
        subst eh
        refine G.iload X 324 dL_law_322 rfl rfl ?_
        refine G.sipush X 327 dL_law_324 rfl (by decide) ?_
        refine G.iandX X 328 dL_law_327 rfl (fun y327 hy327 => ?_)
        refine G.if_ne X 384 331 dL_law_328 (by decide) rfl (by omega) (fun hc328 => ?_) (fun hc328 => ?_)
        · exact law_384 X next hO
        · refine G.aload_n X 332 dL_law_331 rfl rfl ?_
          refine G.bipush X 334 dL_law_332 rfl (by decide) ?_
          refine GS.count X hO ml_L_13 337 dL_law_334 rfl (cnt_15) (by decide) (by decide) ⟨Nat.le_of_ble_eq_true rfl, Nat.le_of_ble_eq_true rfl⟩ (Nat.le_of_ble_eq_true rfl) (fun M hO => ?_)
          refine G.iload X 339 dL_law_337 rfl rfl ?_
          refine G.neF X 342 dL_law_339 358 (by decide) rfl (rfl) ?_
          refine G.iload X 344 dL_law_342 rfl rfl ?_
          refine G.iconst X 345 dL_law_344 rfl ?_
          refine G.icmp_ne X 384 348 dL_law_345 (by decide) rfl (by omega) (by omega) (fun hc345 => ?_) (fun hc345 => by exfalso; omega)
          exact law_384 X next hO
      · have e5 : (r :: h).take 5 = r :: h.take 4 := rfl
        rw [e5] at eh
        subst eh
        have hln : (r :: h.take 4).length = min 4 h.length + 1 := by rw [List.length_cons, List.length_take]
        refine G.iload X 324 dL_law_322 rfl rfl ?_
        refine G.sipush X 327 dL_law_324 rfl (by decide) ?_
        refine G.iandX X 328 dL_law_327 rfl (fun y327 hy327 => ?_)
        refine G.if_ne X 384 331 dL_law_328 (by decide) rfl (by omega) (fun hc328 => ?_) (fun hc328 => ?_)
        · exact law_384 X next hO
        · refine G.aload_n X 332 dL_law_331 rfl rfl ?_
          refine G.bipush X 334 dL_law_332 rfl (by decide) ?_
          refine GS.count X hO ml_L_13 337 dL_law_334 rfl (cnt_15) (by decide) (by decide) ⟨Nat.le_of_ble_eq_true rfl, Nat.le_of_ble_eq_true rfl⟩ (Nat.le_of_ble_eq_true rfl) (fun M hO => ?_)
          refine G.iload X 339 dL_law_337 rfl rfl ?_
          refine G.icmp_ne X 358 342 dL_law_339 (by decide) rfl (by omega) (by omega) (fun hc339 => ?_) (fun hc339 => by exfalso; omega)
          refine G.aload_n X 359 dL_law_358 rfl rfl ?_
          refine GS.undo1 X hO ml_L_101 362 dL_law_359 rfl (by decide) ⟨Nat.le_of_ble_eq_true rfl, Nat.le_of_ble_eq_true rfl⟩ (Nat.le_of_ble_eq_true rfl) (fun M hO => ?_)
          refine G.iload X 364 dL_law_362 rfl rfl ?_
          refine G.neF X 367 dL_law_364 381 (by decide) rfl (by rw [List.length_take]; omega) ?_
          refine G.aload_n X 368 dL_law_367 rfl rfl ?_
          refine G.sJ1 (d := 7) X ml_L_93 ys_L_digest 371 dL_law_368 rfl (c_L_digest l D s.heap.size sz kd rf _ a _ _ _ hO) (by decide) ⟨Nat.le_of_ble_eq_true rfl, Nat.le_of_ble_eq_true rfl⟩ (Nat.le_of_ble_eq_true rfl) (fun x368 M h368 => ?_)
          obtain ⟨e368, hO⟩ := h368
          rw [e368]
          refine G.lload X 373 dL_law_371 rfl rfl ?_
          refine G.lcmp X 374 dL_law_373 rfl (fun z373 hz373 hy373 => ?_)
          have hz := hy373 rfl
          refine G.if_ne X 381 377 dL_law_374 (by decide) rfl (by omega) (fun hc374 => by exfalso; omega) (fun hc374 => ?_)
          refine G.iconst X 378 dL_law_377 rfl ?_
          refine G.goto X 382 dL_law_378 (by decide) ?_
          refine G.istore (ls' := [_, _, _, _, _, _, _, _, _, _, _]) X 384 dL_law_382 rfl (by decide) rfl ?_
          exact law_384 X next hO
    · skip
      refine G.iconst X 292 dL_law_291 rfl ?_
      refine G.icmp_ne X 299 295 dL_law_292 (by decide) rfl (by omega) (by omega) (fun hc292 => ?_) (fun hc292 => by exfalso; omega)
      refine G.iload X 301 dL_law_299 rfl rfl ?_
      refine G.istore (ls' := [_, _, _, _, _, _, _, _, _, _, _]) X 303 dL_law_301 rfl (by decide) rfl ?_
      refine G.iload X 305 dL_law_303 rfl rfl ?_
      refine G.if_eq X 384 308 dL_law_305 (by decide) rfl (by omega) (fun hc305 => by exact absurd hc305 (by decide)) (fun hc305 => ?_)
      refine G.iload X 310 dL_law_308 rfl rfl ?_
      refine G.bipush X 312 dL_law_310 rfl (by decide) ?_
      refine G.icmp_lt X 322 315 dL_law_312 (by decide) rfl (by omega) (by omega) (fun hc312 => by exfalso; omega) (fun hc312 => ?_)
      refine G.iload X 317 dL_law_315 rfl rfl ?_
      refine G.bipush X 319 dL_law_317 rfl (by decide) ?_
      refine G.icmp_le X 384 322 dL_law_319 (by decide) rfl (by omega) (by omega) (fun hc319 => ?_) (fun hc319 => by exfalso; omega)
      exact law_384 X next hO
    · obtain ⟨hRl, hsn⟩ := hinfo.resolve_left (by omega)
      subst hsn
      refine G.iconst X 292 dL_law_291 rfl ?_
      refine G.icmp_ne X 299 295 dL_law_292 (by decide) rfl (by omega) (by omega) (fun hc292 => ?_) (fun hc292 => by exfalso; omega)
      refine G.iload X 301 dL_law_299 rfl rfl ?_
      refine G.istore (ls' := [_, _, _, _, _, _, _, _, _, _, _]) X 303 dL_law_301 rfl (by decide) rfl ?_
      refine G.iload X 305 dL_law_303 rfl rfl ?_
      refine G.if_eq X 384 308 dL_law_305 (by decide) rfl (by omega) (fun hc305 => by exact absurd hc305 (by decide)) (fun hc305 => ?_)
      refine G.iload X 310 dL_law_308 rfl rfl ?_
      refine G.bipush X 312 dL_law_310 rfl (by decide) ?_
      refine G.icmp_lt X 322 315 dL_law_312 (by decide) rfl (by omega) (by omega) (fun hc312 => by exfalso; omega) (fun hc312 => ?_)
      refine G.iload X 317 dL_law_315 rfl rfl ?_
      refine G.bipush X 319 dL_law_317 rfl (by decide) ?_
      refine G.icmp_le X 384 322 dL_law_319 (by decide) rfl (by omega) (by omega) (fun hc319 => by exfalso; omega) (fun hc319 => ?_)
      rcases hRl with ⟨er, eh⟩ | eh
      · subst er
        subst eh
        refine G.iload X 324 dL_law_322 rfl rfl ?_
        refine G.sipush X 327 dL_law_324 rfl (by decide) ?_
        refine G.iandX X 328 dL_law_327 rfl (fun y327 hy327 => ?_)
        refine G.if_ne X 384 331 dL_law_328 (by decide) rfl (by omega) (fun hc328 => ?_) (fun hc328 => ?_)
        · exact law_384 X next hO
        · refine G.aload_n X 332 dL_law_331 rfl rfl ?_
          refine G.bipush X 334 dL_law_332 rfl (by decide) ?_
          refine GS.count X hO ml_L_13 337 dL_law_334 rfl (cnt_15) (by decide) (by decide) ⟨Nat.le_of_ble_eq_true rfl, Nat.le_of_ble_eq_true rfl⟩ (Nat.le_of_ble_eq_true rfl) (fun M hO => ?_)
          refine G.iload X 339 dL_law_337 rfl rfl ?_
          refine G.neF X 342 dL_law_339 358 (by decide) rfl (rfl) ?_
          refine G.iload X 344 dL_law_342 rfl rfl ?_
          refine G.iconst X 345 dL_law_344 rfl ?_
          refine G.icmp_ne X 384 348 dL_law_345 (by decide) rfl (by omega) (by omega) (fun hc345 => ?_) (fun hc345 => by exfalso; omega)
          exact law_384 X next hO
      · have e5 : (r :: h).take 5 = r :: h.take 4 := rfl
        rw [e5] at eh
        subst eh
        have hln : (r :: h.take 4).length = min 4 h.length + 1 := by rw [List.length_cons, List.length_take]
        refine G.iload X 324 dL_law_322 rfl rfl ?_
        refine G.sipush X 327 dL_law_324 rfl (by decide) ?_
        refine G.iandX X 328 dL_law_327 rfl (fun y327 hy327 => ?_)
        refine G.if_ne X 384 331 dL_law_328 (by decide) rfl (by omega) (fun hc328 => ?_) (fun hc328 => ?_)
        · exact law_384 X next hO
        · refine G.aload_n X 332 dL_law_331 rfl rfl ?_
          refine G.bipush X 334 dL_law_332 rfl (by decide) ?_
          refine GS.count X hO ml_L_13 337 dL_law_334 rfl (cnt_15) (by decide) (by decide) ⟨Nat.le_of_ble_eq_true rfl, Nat.le_of_ble_eq_true rfl⟩ (Nat.le_of_ble_eq_true rfl) (fun M hO => ?_)
          refine G.iload X 339 dL_law_337 rfl rfl ?_
          refine G.icmp_ne X 358 342 dL_law_339 (by decide) rfl (by omega) (by omega) (fun hc339 => ?_) (fun hc339 => by exfalso; omega)
          refine G.aload_n X 359 dL_law_358 rfl rfl ?_
          refine GS.undo1 X hO ml_L_101 362 dL_law_359 rfl (by decide) ⟨Nat.le_of_ble_eq_true rfl, Nat.le_of_ble_eq_true rfl⟩ (Nat.le_of_ble_eq_true rfl) (fun M hO => ?_)
          refine G.iload X 364 dL_law_362 rfl rfl ?_
          refine G.neF X 367 dL_law_364 381 (by decide) rfl (by rw [List.length_take]; omega) ?_
          refine G.aload_n X 368 dL_law_367 rfl rfl ?_
          refine G.sJ1 (d := 7) X ml_L_93 ys_L_digest 371 dL_law_368 rfl (c_L_digest l D s.heap.size sz kd rf _ a _ _ _ hO) (by decide) ⟨Nat.le_of_ble_eq_true rfl, Nat.le_of_ble_eq_true rfl⟩ (Nat.le_of_ble_eq_true rfl) (fun x368 M h368 => ?_)
          obtain ⟨e368, hO⟩ := h368
          rw [e368]
          refine G.lload X 373 dL_law_371 rfl rfl ?_
          refine G.lcmp X 374 dL_law_373 rfl (fun z373 hz373 hy373 => ?_)
          have hz := hy373 rfl
          refine G.if_ne X 381 377 dL_law_374 (by decide) rfl (by omega) (fun hc374 => by exfalso; omega) (fun hc374 => ?_)
          refine G.iconst X 378 dL_law_377 rfl ?_
          refine G.goto X 382 dL_law_378 (by decide) ?_
          refine G.istore (ls' := [_, _, _, _, _, _, _, _, _, _, _]) X 384 dL_law_382 rfl (by decide) rfl ?_
          exact law_384 X next hO
set_option maxHeartbeats 2000000 in
set_option maxRecDepth 100000 in
theorem law_141 {p : Program} {l : Launch} {e : Env} {s : State} {m : MethodId} {b : Nat} {below : List Frame} {meth : Method} {c : Code} {D : xD} (X : Cx p s m meth c #[Value.ref b] code 11 RL ret D) {a sz : Nat} {kd : xKd} {rf : xRf} {i : Nat} (next : ∀ (M : xM) (r : xR) (h : List xR) (sn : Option xR), Ob kd rf a M r h sn → LG p l e s m b below meth c D sz kd rf M 86 [some (.ref b), some (.ref a), some (vi ((i + 1 : Nat) : Int)), none, none, none, none, none, none, none, none] []) {g w so : Int} {M : xM} {r : xR} {h : List xR} {sn : Option xR} (hso : 0 ≤ so ∧ so ≤ 19) (hg : IR g) (hw : IR w) (hO : Ob kd rf a M r h sn) : LG p l e s m b below meth c D sz kd rf M 141 [some (.ref b), some (.ref a), some (vi (i : Int)), some (vi g), some (vi w), none, none, none, none, none, none] [vi so] := by
  have hlen := hO.2.1.2.2.2
  refine G.istore (ls' := [_, _, _, _, _, _, _, _, _, _, _]) X 143 dL_law_141 rfl (by decide) rfl ?_
  refine G.aload_n X 144 dL_law_143 rfl rfl ?_
  refine G.bipush X 146 dL_law_144 rfl (by decide) ?_
  refine GS.count X hO ml_L_13 149 dL_law_146 rfl (cnt_15) (by decide) (by decide) ⟨Nat.le_of_ble_eq_true rfl, Nat.le_of_ble_eq_true rfl⟩ (Nat.le_of_ble_eq_true rfl) (fun M hO => ?_)
  refine G.istore (ls' := [_, _, _, _, _, _, _, _, _, _, _]) X 151 dL_law_149 rfl (by decide) rfl ?_
  refine G.aload_n X 152 dL_law_151 rfl rfl ?_
  refine G.sJ1 (d := 7) X ml_L_93 ys_L_digest 155 dL_law_152 rfl (c_L_digest l D s.heap.size sz kd rf _ a _ _ _ hO) (by decide) ⟨Nat.le_of_ble_eq_true rfl, Nat.le_of_ble_eq_true rfl⟩ (Nat.le_of_ble_eq_true rfl) (fun x152 M h152 => ?_)
  obtain ⟨e152, hO⟩ := h152
  rw [e152]
  refine G.lstore (ls' := [_, _, _, _, _, _, _, _, _, _, _]) X 157 dL_law_155 rfl (by decide) rfl rfl ?_
  refine G.iconst X 158 dL_law_157 rfl ?_
  refine G.istore (ls' := [_, _, _, _, _, _, _, _, _, _, _]) X 160 dL_law_158 rfl (by decide) rfl ?_
  rcases (by omega : so < 4 ∨ (4 ≤ so ∧ so < 7) ∨ (7 ≤ so ∧ so < 13) ∨ (13 ≤ so ∧ so ≤ 16) ∨ so = 17 ∨ 17 < so) with e1 | e1 | e1 | e1 | e1 | e1
  · skip
    refine G.iload X 162 dL_law_160 rfl rfl ?_
    refine G.iconst X 163 dL_law_162 rfl ?_
    refine G.icmp_ge X 180 166 dL_law_163 (by decide) rfl (by omega) (by omega) (fun hc163 => by exfalso; omega) (fun hc163 => ?_)
    refine G.aload_n X 167 dL_law_166 rfl rfl ?_
    refine G.iload X 169 dL_law_167 rfl rfl ?_
    refine G.iload_n X 170 dL_law_169 rfl rfl ?_
    refine G.iload X 172 dL_law_170 rfl rfl ?_
    refine G.sI4 (d := 8) X ml_L_111 ys_L_moves 175 dL_law_172 rfl (c_L_moves l D s.heap.size sz kd rf _ a r h sn hO so g w (by omega) hg hw) (by decide) ⟨Nat.le_of_ble_eq_true rfl, Nat.le_of_ble_eq_true rfl⟩ (Nat.le_of_ble_eq_true rfl) (fun q172 M h172 => ?_)
    obtain ⟨e172, r1, h1, hO, hRl⟩ := h172
    rw [e172]
    refine G.istore (ls' := [_, _, _, _, _, _, _, _, _, _, _]) X 177 dL_law_175 rfl (by decide) rfl ?_
    refine G.goto X 289 dL_law_177 (by decide) ?_
    exact law_289 X next (r := r) (h := h) (sn := sn) (by omega) hg hw hlen (Or.inr ⟨hRl, rfl⟩) hO
  · skip
    refine G.iload X 162 dL_law_160 rfl rfl ?_
    refine G.iconst X 163 dL_law_162 rfl ?_
    refine G.icmp_ge X 180 166 dL_law_163 (by decide) rfl (by omega) (by omega) (fun hc163 => ?_) (fun hc163 => by exfalso; omega)
    refine G.iload X 182 dL_law_180 rfl rfl ?_
    refine G.bipush X 184 dL_law_182 rfl (by decide) ?_
    refine G.icmp_ge X 201 187 dL_law_184 (by decide) rfl (by omega) (by omega) (fun hc184 => by exfalso; omega) (fun hc184 => ?_)
    refine G.aload_n X 188 dL_law_187 rfl rfl ?_
    refine G.iload X 190 dL_law_188 rfl rfl ?_
    refine G.iload_n X 191 dL_law_190 rfl rfl ?_
    refine G.iload X 193 dL_law_191 rfl rfl ?_
    refine G.sI4 (d := 7) X ml_L_115 ys_L_fuels 196 dL_law_193 rfl (c_L_fuels l D s.heap.size sz kd rf _ a r h sn hO so g w (by omega) hg hw) (by decide) ⟨Nat.le_of_ble_eq_true rfl, Nat.le_of_ble_eq_true rfl⟩ (Nat.le_of_ble_eq_true rfl) (fun q193 M h193 => ?_)
    obtain ⟨e193, r1, h1, hO, hRl⟩ := h193
    rw [e193]
    refine G.istore (ls' := [_, _, _, _, _, _, _, _, _, _, _]) X 198 dL_law_196 rfl (by decide) rfl ?_
    refine G.goto X 289 dL_law_198 (by decide) ?_
    exact law_289 X next (r := r) (h := h) (sn := sn) (by omega) hg hw hlen (Or.inr ⟨hRl, rfl⟩) hO
  · skip
    refine G.iload X 162 dL_law_160 rfl rfl ?_
    refine G.iconst X 163 dL_law_162 rfl ?_
    refine G.icmp_ge X 180 166 dL_law_163 (by decide) rfl (by omega) (by omega) (fun hc163 => ?_) (fun hc163 => by exfalso; omega)
    refine G.iload X 182 dL_law_180 rfl rfl ?_
    refine G.bipush X 184 dL_law_182 rfl (by decide) ?_
    refine G.icmp_ge X 201 187 dL_law_184 (by decide) rfl (by omega) (by omega) (fun hc184 => ?_) (fun hc184 => by exfalso; omega)
    refine G.iload X 203 dL_law_201 rfl rfl ?_
    refine G.bipush X 205 dL_law_203 rfl (by decide) ?_
    refine G.icmp_ge X 222 208 dL_law_205 (by decide) rfl (by omega) (by omega) (fun hc205 => by exfalso; omega) (fun hc205 => ?_)
    refine G.aload_n X 209 dL_law_208 rfl rfl ?_
    refine G.iload X 211 dL_law_209 rfl rfl ?_
    refine G.iload_n X 212 dL_law_211 rfl rfl ?_
    refine G.iload X 214 dL_law_212 rfl rfl ?_
    refine G.sI4 (d := 7) X ml_L_118 ys_L_others 217 dL_law_214 rfl (c_L_others l D s.heap.size sz kd rf _ a r h sn hO so g w (by omega) hg hw) (by decide) ⟨Nat.le_of_ble_eq_true rfl, Nat.le_of_ble_eq_true rfl⟩ (Nat.le_of_ble_eq_true rfl) (fun q214 M h214 => ?_)
    obtain ⟨e214, r1, h1, hO, hRl⟩ := h214
    rw [e214]
    refine G.istore (ls' := [_, _, _, _, _, _, _, _, _, _, _]) X 219 dL_law_217 rfl (by decide) rfl ?_
    refine G.goto X 289 dL_law_219 (by decide) ?_
    exact law_289 X next (r := r) (h := h) (sn := sn) (by omega) hg hw hlen (Or.inr ⟨hRl, rfl⟩) hO
  · skip
    refine G.iload X 162 dL_law_160 rfl rfl ?_
    refine G.iconst X 163 dL_law_162 rfl ?_
    refine G.icmp_ge X 180 166 dL_law_163 (by decide) rfl (by omega) (by omega) (fun hc163 => ?_) (fun hc163 => by exfalso; omega)
    refine G.iload X 182 dL_law_180 rfl rfl ?_
    refine G.bipush X 184 dL_law_182 rfl (by decide) ?_
    refine G.icmp_ge X 201 187 dL_law_184 (by decide) rfl (by omega) (by omega) (fun hc184 => ?_) (fun hc184 => by exfalso; omega)
    refine G.iload X 203 dL_law_201 rfl rfl ?_
    refine G.bipush X 205 dL_law_203 rfl (by decide) ?_
    refine G.icmp_ge X 222 208 dL_law_205 (by decide) rfl (by omega) (by omega) (fun hc205 => ?_) (fun hc205 => by exfalso; omega)
    refine G.iload X 224 dL_law_222 rfl rfl ?_
    refine G.bipush X 226 dL_law_224 rfl (by decide) ?_
    refine G.icmp_ge X 256 229 dL_law_226 (by decide) rfl (by omega) (by omega) (fun hc226 => by exfalso; omega) (fun hc226 => ?_)
    refine G.aload_n X 230 dL_law_229 rfl rfl ?_
    refine G.iconst X 231 dL_law_230 rfl ?_
    refine G.iload X 233 dL_law_231 rfl rfl ?_
    refine G.iconst X 234 dL_law_233 rfl ?_
    refine GS.low X ml_L_52 237 dL_law_234 rfl (by omega) (by decide) ⟨Nat.le_of_ble_eq_true rfl, Nat.le_of_ble_eq_true rfl⟩ (Nat.le_of_ble_eq_true rfl) (fun j234 hj234 => ?_)
    refine G.iadd X 238 dL_law_237 rfl ?_
    rw [show (1 : Int) + (j234 : Int) = ((1 + j234 : Nat) : Int) by omega]
    refine G.iconst X 239 dL_law_238 rfl ?_
    refine G.iload X 241 dL_law_239 rfl rfl ?_
    refine G.iconst X 242 dL_law_241 rfl ?_
    refine G.ishrX X 243 dL_law_242 rfl (fun y242 hy242 => ?_)
    refine G.iconst X 244 dL_law_243 rfl ?_
    refine GS.low X ml_L_52 247 dL_law_244 rfl (by omega) (by decide) ⟨Nat.le_of_ble_eq_true rfl, Nat.le_of_ble_eq_true rfl⟩ (Nat.le_of_ble_eq_true rfl) (fun j244 hj244 => ?_)
    refine G.iadd X 248 dL_law_247 rfl ?_
    rw [show (1 : Int) + (j244 : Int) = ((1 + j244 : Nat) : Int) by omega]
    refine G.sI3 (d := 8) X ml_L_121 ys_L_passes 251 dL_law_248 rfl (c_L_passes l D s.heap.size sz kd rf _ a r h sn hO (1 + j234) (1 + j244) (by omega) (by omega)) (by decide) ⟨Nat.le_of_ble_eq_true rfl, Nat.le_of_ble_eq_true rfl⟩ (Nat.le_of_ble_eq_true rfl) (fun q248 M h248 => ?_)
    obtain ⟨e248, r1, h1, sn1, hO⟩ := h248
    rw [e248]
    refine G.istore (ls' := [_, _, _, _, _, _, _, _, _, _, _]) X 253 dL_law_251 rfl (by decide) rfl ?_
    refine G.goto X 289 dL_law_253 (by decide) ?_
    exact law_289 X next (r := r) (h := h) (sn := sn) (by omega) hg hw hlen (Or.inl e1) hO
  · skip
    refine G.iload X 162 dL_law_160 rfl rfl ?_
    refine G.iconst X 163 dL_law_162 rfl ?_
    refine G.icmp_ge X 180 166 dL_law_163 (by decide) rfl (by omega) (by omega) (fun hc163 => ?_) (fun hc163 => by exfalso; omega)
    refine G.iload X 182 dL_law_180 rfl rfl ?_
    refine G.bipush X 184 dL_law_182 rfl (by decide) ?_
    refine G.icmp_ge X 201 187 dL_law_184 (by decide) rfl (by omega) (by omega) (fun hc184 => ?_) (fun hc184 => by exfalso; omega)
    refine G.iload X 203 dL_law_201 rfl rfl ?_
    refine G.bipush X 205 dL_law_203 rfl (by decide) ?_
    refine G.icmp_ge X 222 208 dL_law_205 (by decide) rfl (by omega) (by omega) (fun hc205 => ?_) (fun hc205 => by exfalso; omega)
    refine G.iload X 224 dL_law_222 rfl rfl ?_
    refine G.bipush X 226 dL_law_224 rfl (by decide) ?_
    refine G.icmp_ge X 256 229 dL_law_226 (by decide) rfl (by omega) (by omega) (fun hc226 => ?_) (fun hc226 => by exfalso; omega)
    refine G.iload X 258 dL_law_256 rfl rfl ?_
    refine G.bipush X 260 dL_law_258 rfl (by decide) ?_
    refine G.icmp_ne X 275 263 dL_law_260 (by decide) rfl (by omega) (by omega) (fun hc260 => by exfalso; omega) (fun hc260 => ?_)
    refine G.aload_n X 264 dL_law_263 rfl rfl ?_
    refine G.bipush X 266 dL_law_264 rfl (by decide) ?_
    refine G.iload_n X 267 dL_law_266 rfl rfl ?_
    refine G.iload X 269 dL_law_267 rfl rfl ?_
    refine G.sI4 (d := 7) X ml_L_115 ys_L_fuels 272 dL_law_269 rfl (c_L_fuels l D s.heap.size sz kd rf _ a r h sn hO 6 g w (by omega) hg hw) (by decide) ⟨Nat.le_of_ble_eq_true rfl, Nat.le_of_ble_eq_true rfl⟩ (Nat.le_of_ble_eq_true rfl) (fun q269 M h269 => ?_)
    obtain ⟨e269, r1, h1, hO, hRl⟩ := h269
    rw [e269]
    refine G.goto X 287 dL_law_272 (by decide) ?_
    refine G.istore (ls' := [_, _, _, _, _, _, _, _, _, _, _]) X 289 dL_law_287 rfl (by decide) rfl ?_
    exact law_289 X next (r := r) (h := h) (sn := sn) (by omega) hg hw hlen (Or.inr ⟨hRl, rfl⟩) hO
  · skip
    refine G.iload X 162 dL_law_160 rfl rfl ?_
    refine G.iconst X 163 dL_law_162 rfl ?_
    refine G.icmp_ge X 180 166 dL_law_163 (by decide) rfl (by omega) (by omega) (fun hc163 => ?_) (fun hc163 => by exfalso; omega)
    refine G.iload X 182 dL_law_180 rfl rfl ?_
    refine G.bipush X 184 dL_law_182 rfl (by decide) ?_
    refine G.icmp_ge X 201 187 dL_law_184 (by decide) rfl (by omega) (by omega) (fun hc184 => ?_) (fun hc184 => by exfalso; omega)
    refine G.iload X 203 dL_law_201 rfl rfl ?_
    refine G.bipush X 205 dL_law_203 rfl (by decide) ?_
    refine G.icmp_ge X 222 208 dL_law_205 (by decide) rfl (by omega) (by omega) (fun hc205 => ?_) (fun hc205 => by exfalso; omega)
    refine G.iload X 224 dL_law_222 rfl rfl ?_
    refine G.bipush X 226 dL_law_224 rfl (by decide) ?_
    refine G.icmp_ge X 256 229 dL_law_226 (by decide) rfl (by omega) (by omega) (fun hc226 => ?_) (fun hc226 => by exfalso; omega)
    refine G.iload X 258 dL_law_256 rfl rfl ?_
    refine G.bipush X 260 dL_law_258 rfl (by decide) ?_
    refine G.icmp_ne X 275 263 dL_law_260 (by decide) rfl (by omega) (by omega) (fun hc260 => ?_) (fun hc260 => by exfalso; omega)
    refine G.aload_n X 276 dL_law_275 rfl rfl ?_
    refine G.iload X 278 dL_law_276 rfl rfl ?_
    refine G.bipush X 280 dL_law_278 rfl (by decide) ?_
    refine G.isub X 281 dL_law_280 rfl ?_
    refine G.iload_n X 282 dL_law_281 rfl rfl ?_
    refine G.iload X 284 dL_law_282 rfl rfl ?_
    refine G.sI4 (d := 8) X ml_L_111 ys_L_moves 287 dL_law_284 rfl (c_L_moves l D s.heap.size sz kd rf _ a r h sn hO (so - 18) g w (by omega) hg hw) (by decide) ⟨Nat.le_of_ble_eq_true rfl, Nat.le_of_ble_eq_true rfl⟩ (Nat.le_of_ble_eq_true rfl) (fun q284 M h284 => ?_)
    obtain ⟨e284, r1, h1, hO, hRl⟩ := h284
    rw [e284]
    refine G.istore (ls' := [_, _, _, _, _, _, _, _, _, _, _]) X 289 dL_law_287 rfl (by decide) rfl ?_
    exact law_289 X next (r := r) (h := h) (sn := sn) (by omega) hg hw hlen (Or.inr ⟨hRl, rfl⟩) hO
set_option maxHeartbeats 2000000 in
set_option maxRecDepth 100000 in
theorem law_86 {p : Program} {l : Launch} {e : Env} {s : State} {m : MethodId} {b : Nat} {below : List Frame} {meth : Method} {c : Code} {D : xD} (X : Cx p s m meth c #[Value.ref b] code 11 RL ret D) {a sz : Nat} {kd : xKd} {rf : xRf} {L : Nat} {xs : Nat → Int32} (hxs : va_X b L xs s s.heap) (hbl : b < s.heap.size) (hL : L ≤ 260) : ∀ (k i : Nat) (M : xM) (r : xR) (h : List xR) (sn : Option xR), i + k = 28 → Ob kd rf a M r h sn → LG p l e s m b below meth c D sz kd rf M 86 [some (.ref b), some (.ref a), some (vi (i : Int)), none, none, none, none, none, none, none, none] [] := by
  intro k
  induction k with
  | zero =>
    intro i M r h sn hik hO
    refine G.iload_n X 87 dL_law_86 rfl rfl ?_
    refine G.bipush X 89 dL_law_87 rfl (by decide) ?_
    refine G.icmp_ge X 411 92 dL_law_89 (by decide) rfl (by omega) (by omega) (fun hc89 => ?_) (fun hc89 => by exfalso; omega)
    exact LG.done X
  | succ k ih =>
    intro i M r h sn hik hO
    refine G.iload_n X 87 dL_law_86 rfl rfl ?_
    refine G.bipush X 89 dL_law_87 rfl (by decide) ?_
    refine G.icmp_ge X 411 92 dL_law_89 (by decide) rfl (by omega) (by omega) (fun hc89 => by exfalso; omega) (fun hc89 => ?_)
    refine G.aload_n X 93 dL_law_92 rfl rfl ?_
    refine G.iconst X 94 dL_law_93 rfl ?_
    refine G.iload_n X 95 dL_law_94 rfl rfl ?_
    refine G.imul X 96 dL_law_95 rfl ?_
    refine GS.cell X hxs hbl hbl hL ml_L_107 99 dL_law_96 rfl (by omega) (by decide) ⟨Nat.le_of_ble_eq_true rfl, Nat.le_of_ble_eq_true rfl⟩ (Nat.le_of_ble_eq_true rfl) (fun g96 hg96 => ?_)
    refine G.istore_n (ls' := [_, _, _, _, _, _, _, _, _, _, _]) X 100 dL_law_99 rfl (by decide) rfl ?_
    refine G.aload_n X 101 dL_law_100 rfl rfl ?_
    refine G.iconst X 102 dL_law_101 rfl ?_
    refine G.iload_n X 103 dL_law_102 rfl rfl ?_
    refine G.imul X 104 dL_law_103 rfl ?_
    refine G.iconst X 105 dL_law_104 rfl ?_
    refine G.iadd X 106 dL_law_105 rfl ?_
    refine GS.cell X hxs hbl hbl hL ml_L_107 109 dL_law_106 rfl (by omega) (by decide) ⟨Nat.le_of_ble_eq_true rfl, Nat.le_of_ble_eq_true rfl⟩ (Nat.le_of_ble_eq_true rfl) (fun g106 hg106 => ?_)
    refine G.istore (ls' := [_, _, _, _, _, _, _, _, _, _, _]) X 111 dL_law_109 rfl (by decide) rfl ?_
    refine G.iload_n X 112 dL_law_111 rfl rfl ?_
    refine G.iconst X 113 dL_law_112 rfl ?_
    refine G.icmp_ge X 121 116 dL_law_113 (by decide) rfl (by omega) (by omega) (fun hc113 => ?_) (fun hc113 => ?_)
    · refine G.iload_n X 122 dL_law_121 rfl rfl ?_
      refine G.bipush X 124 dL_law_122 rfl (by decide) ?_
      refine G.icmp_ge X 132 127 dL_law_124 (by decide) rfl (by omega) (by omega) (fun hc124 => ?_) (fun hc124 => ?_)
      · refine G.iload_n X 133 dL_law_132 rfl rfl ?_
        refine G.bipush X 135 dL_law_133 rfl (by decide) ?_
        refine G.ishrX X 136 dL_law_135 rfl (fun y135 hy135 => ?_)
        refine G.bipush X 138 dL_law_136 rfl (by decide) ?_
        refine GS.low X ml_L_52 141 dL_law_138 rfl (by omega) (by decide) ⟨Nat.le_of_ble_eq_true rfl, Nat.le_of_ble_eq_true rfl⟩ (Nat.le_of_ble_eq_true rfl) (fun j138 hj138 => ?_)
        exact law_141 X (fun M r h sn hO => ih (i + 1) M r h sn (by omega) hO) (so := (j138 : Int)) (by omega) hg96 hg106 hO
      · refine G.bipush X 129 dL_law_127 rfl (by decide) ?_
        refine G.goto X 141 dL_law_129 (by decide) ?_
        exact law_141 X (fun M r h sn hO => ih (i + 1) M r h sn (by omega) hO) (so := 11) (by omega) hg96 hg106 hO
    · refine G.bipush X 118 dL_law_116 rfl (by decide) ?_
      refine G.goto X 141 dL_law_118 (by decide) ?_
      exact law_141 X (fun M r h sn hO => ih (i + 1) M r h sn (by omega) hO) (so := 9) (by omega) hg96 hg106 hO
set_option maxHeartbeats 2000000 in
set_option maxRecDepth 100000 in
theorem law_8 {p : Program} {l : Launch} {e : Env} {s : State} {m : MethodId} {b : Nat} {below : List Frame} {meth : Method} {c : Code} {D : xD} (X : Cx p s m meth c #[Value.ref b] code 11 RL ret D) {a sz : Nat} {kd : xKd} {rf : xRf} {L : Nat} {xs : Nat → Int32} (hxs : va_X b L xs s s.heap) (hbl : b < s.heap.size) (hL : L ≤ 260) {M : xM} (hO : Ob kd rf a M rowI [] none) : LG p l e s m b below meth c D sz kd rf M 8 [some (.ref b), some (.ref a), none, none, none, none, none, none, none, none, none] [] := by
  refine G.aload_n X 9 dL_law_8 rfl rfl ?_
  refine GS.undo0 X hO ml_L_101 12 dL_law_9 rfl (by decide) ⟨Nat.le_of_ble_eq_true rfl, Nat.le_of_ble_eq_true rfl⟩ (Nat.le_of_ble_eq_true rfl) (fun M hO => ?_)
  refine G.bipush X 14 dL_law_12 rfl (by decide) ?_
  refine G.icmp_ne X 82 17 dL_law_14 (by decide) rfl (by omega) (by omega) (fun hc14 => by exact absurd hc14 (by decide)) (fun hc14 => ?_)
  refine G.aload_n X 18 dL_law_17 rfl rfl ?_
  refine GS.restore0 X hO ml_L_97 21 dL_law_18 rfl (by decide) ⟨Nat.le_of_ble_eq_true rfl, Nat.le_of_ble_eq_true rfl⟩ (Nat.le_of_ble_eq_true rfl) (fun M hO => ?_)
  refine G.bipush X 23 dL_law_21 rfl (by decide) ?_
  refine G.icmp_ne X 82 26 dL_law_23 (by decide) rfl (by omega) (by omega) (fun hc23 => by exact absurd hc23 (by decide)) (fun hc23 => ?_)
  refine G.aload_n X 27 dL_law_26 rfl rfl ?_
  refine GS.readSitesN X hO ml_L_104 30 dL_law_27 rfl (show readF [] rowI = (-100, none) from rfl)  (by decide) ⟨Nat.le_of_ble_eq_true rfl, Nat.le_of_ble_eq_true rfl⟩ (Nat.le_of_ble_eq_true rfl) (fun M hO => ?_)
  refine G.bipush X 32 dL_law_30 rfl (by decide) ?_
  refine G.icmp_ne X 82 35 dL_law_32 (by decide) rfl (by omega) (by omega) (fun hc32 => by exact absurd hc32 (by decide)) (fun hc32 => ?_)
  refine G.aload_n X 36 dL_law_35 rfl rfl ?_
  refine GS.swapN X hO ml_L_55 39 dL_law_36 rfl (show swapL rowI (needL rowI) = (-5, none) from rfl)  (by decide) ⟨Nat.le_of_ble_eq_true rfl, Nat.le_of_ble_eq_true rfl⟩ (Nat.le_of_ble_eq_true rfl) (fun M hO => ?_)
  refine G.bipush X 41 dL_law_39 rfl (by decide) ?_
  refine G.icmp_ne X 82 44 dL_law_41 (by decide) rfl (by omega) (by omega) (fun hc41 => by exact absurd hc41 (by decide)) (fun hc41 => ?_)
  refine G.aload_n X 45 dL_law_44 rfl rfl ?_
  refine GS.giveOutN X hO ml_L_44 48 dL_law_45 rfl (show giveF rowI = (-5, none) from rfl)  (by decide) ⟨Nat.le_of_ble_eq_true rfl, Nat.le_of_ble_eq_true rfl⟩ (Nat.le_of_ble_eq_true rfl) (fun M hO => ?_)
  refine G.bipush X 50 dL_law_48 rfl (by decide) ?_
  refine G.icmp_ne X 82 53 dL_law_50 (by decide) rfl (by omega) (by omega) (fun hc50 => by exact absurd hc50 (by decide)) (fun hc50 => ?_)
  refine G.aload_n X 54 dL_law_53 rfl rfl ?_
  refine GS.fuelRunN X hO ml_L_71 57 dL_law_54 rfl (show fuelF rowI = (-5, none) from rfl)  (by decide) ⟨Nat.le_of_ble_eq_true rfl, Nat.le_of_ble_eq_true rfl⟩ (Nat.le_of_ble_eq_true rfl) (fun M hO => ?_)
  refine G.bipush X 59 dL_law_57 rfl (by decide) ?_
  refine G.icmp_ne X 82 62 dL_law_59 (by decide) rfl (by omega) (by omega) (fun hc59 => by exact absurd hc59 (by decide)) (fun hc59 => ?_)
  refine G.aload_n X 63 dL_law_62 rfl rfl ?_
  refine G.iconst X 64 dL_law_63 rfl ?_
  refine GS.why X hO ml_L_26 67 dL_law_64 rfl (show whyF 0 rowI = -1 from rfl) (by decide) (by decide) ⟨Nat.le_of_ble_eq_true rfl, Nat.le_of_ble_eq_true rfl⟩ (Nat.le_of_ble_eq_true rfl) ?_
  refine G.iconst X 68 dL_law_67 rfl ?_
  refine G.icmp_ne X 82 71 dL_law_68 (by decide) rfl (by omega) (by omega) (fun hc68 => by exact absurd hc68 (by decide)) (fun hc68 => ?_)
  refine G.aload_n X 72 dL_law_71 rfl rfl ?_
  refine G.iconst X 73 dL_law_72 rfl ?_
  refine G.iconst X 74 dL_law_73 rfl ?_
  refine GS.forecast X hO ml_L_29 77 dL_law_74 rfl (show foreF 1 3 rowI = -5 from rfl) (by decide) (by decide) (by decide) ⟨Nat.le_of_ble_eq_true rfl, Nat.le_of_ble_eq_true rfl⟩ (Nat.le_of_ble_eq_true rfl) (fun M hO => ?_)
  refine G.bipush X 79 dL_law_77 rfl (by decide) ?_
  refine G.icmp_eq X 84 82 dL_law_79 (by decide) rfl (by omega) (by omega) (fun hc79 => ?_) (fun hc79 => by exact absurd hc79 (by decide))
  refine G.iconst X 85 dL_law_84 rfl ?_
  refine G.istore_n (ls' := [_, _, _, _, _, _, _, _, _, _, _]) X 86 dL_law_85 rfl (by decide) rfl ?_
  exact law_86 X hxs hbl hL 28 0 M rowI [] none (by omega) hO
