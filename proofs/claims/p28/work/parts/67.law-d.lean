theorem buy_f {r : xR} {x : Int} (hx : 1 ≤ x ∧ x ≤ 5000) (hb : 50000 < r 3 + x) : buyF x r = (-3, none) := by
  unfold buyF
  rw [if_neg (by omega), if_pos hb]
theorem buy_s {r : xR} {x : Int} (hx : 1 ≤ x ∧ x ≤ 5000) (hb : ¬ 50000 < r 3 + x) : buyF x r = (r 3 + x, some (fu (fu r 3 (r 3 + x)) 5 (r 5 + x))) := by
  unfold buyF
  rw [if_neg (by omega), if_neg hb]
theorem buy_b {r : xR} {x : Int} (hx : ¬ (1 ≤ x ∧ x ≤ 5000)) : buyF x r = (-2, none) := if_pos hx
theorem fill_no {r : xR} {x : Int} (hx : ¬ (0 ≤ x ∧ x < r 6)) : fillF x r = (-1, none) := if_pos hx
theorem fill_a {r : xR} {i : Nat} (hi : (i : Int) < r 6) (h5 : 0 < fS r i 5) : fillF (i : Int) r = (-4, none) := by
  unfold fillF
  rw [if_neg (by omega), Int.toNat_natCast, if_pos h5]
theorem fill_z {r : xR} {i : Nat} (hi : (i : Int) < r 6) (h5 : fS r i 5 = 0) (hl : litF r i ≤ 0) : fillF (i : Int) r = (-5, none) := by
  unfold fillF
  rw [if_neg (by omega), Int.toNat_natCast, if_neg (by omega), if_pos hl]
theorem fill_s {r : xR} {i : Nat} (hi : (i : Int) < r 6) (h5 : fS r i 5 = 0) (hl : ¬ litF r i ≤ 0) : fillF (i : Int) r = (litF r i, some (fillR r i (litF r i))) := by
  unfold fillF
  rw [if_neg (by omega), Int.toNat_natCast, if_neg (by omega), if_neg hl]
theorem litF_or (r : xR) (i : Nat) : r 3 < fS r i 1 - fS r i 4 ∧ litF r i = r 3 ∨ ¬ r 3 < fS r i 1 - fS r i 4 ∧ litF r i = fS r i 1 - fS r i 4 := by
  unfold litF
  split
  · rename_i hc
    exact Or.inl ⟨hc, rfl⟩
  · rename_i hc
    exact Or.inr ⟨hc, rfl⟩
theorem fuel_get {r : xR} (h : Jr r) : fuelF r = (-5, none) ∨ ∃ (t : Int) (r1 : xR), fuelF r = (t, some r1) ∧ Jr r1 ∧ (0 < t ∧ t ≤ lessI 300 (r 3)) ∧ (nS r1 = nS r ∧ nC r1 = nC r) ∧ (sumN (fun i => fS r1 i 4) (nS r1) = sumN (fun i => fS r i 4) (nS r) + t ∧ r1 3 = r 3 - t) ∧ (t < lessI 300 (r 3) → ∀ x i : Nat, x < nC r1 → fC r1 x 4 = (i : Int) + 1 → fS r1 i 4 = fS r1 i 1) := by
  have hb := h.1.1.1
  have hl := lessI_lim 300 (r 3)
  have g := fuelL_all (lessI 300 (r 3)) (thirL r) (0, r) h (by show lessI 300 (r 3) - 0 ≤ r 3; omega) (fun x hx => ⟨(sortK_mem.mp hx).1, hasB_iff.mp (sortK_mem.mp hx).2⟩)
  unfold fuelF
  generalize fuelL (lessI 300 (r 3)) (thirL r) (0, r) = Z at g ⊢
  obtain ⟨a1, ⟨⟨a2, a3⟩, a4, a5⟩, ⟨a6, a7⟩, ⟨a8, a9, a10⟩, a11, a12⟩ := g
  dsimp only at a2 a3 a4 a5 a6 a7 a8 a9 a10 a11 a12
  by_cases hp : 0 < Z.1
  · rw [if_pos hp]
    refine Or.inr ⟨Z.1, Z.2, rfl, a1, ⟨hp, a9 (by omega)⟩, ⟨a2, a3⟩, ⟨by rw [a2, a6]; omega, by omega⟩, fun ht x i hx h4 => ?_⟩
    rw [a4] at h4
    rw [a3] at hx
    have hm : x ∈ thirL r := sortK_mem.mpr ⟨hx, hasB_iff.mpr (by omega)⟩
    rw [a12 ht x hm i h4, a5 i 1 (by decide) (by decide)]
  · rw [if_neg hp]
    exact Or.inl rfl
set_option maxHeartbeats 2000000 in
set_option maxRecDepth 100000 in
theorem c_L_fuels (l : Launch) (D : xD) (Bs sz : Nat) (kd : xKd) (rf : xRf) (M : xM) (a : Nat) (r : xR) (h : List xR) (sn : Option xR) (hO : Ob kd rf a M r h sn) (so g w : Int) (hso : 4 ≤ so ∧ so ≤ 6) (hg : IR g) (hw : IR w) : CtI l D Bs yL_fuels cL_fuels 11 (some .boolean) 7 [.ref a, vi so, vi g, vi w] sz kd rf M (fun q M' => q = 1 ∧ ∃ (r1 : xR) (h1 : List xR), Ob kd rf a M' r1 h1 sn ∧ Rl r h r1 h1) := by
  refine Ctr.of (ys_L_fuels.1.2.2.2.2) (List.forall_mem_cons.mpr ⟨rfl, List.forall_mem_cons.mpr ⟨rfl, List.forall_mem_cons.mpr ⟨rfl, List.forall_mem_cons.mpr ⟨rfl, fun _ h => absurd h List.not_mem_nil⟩⟩⟩⟩) (Nat.le_of_ble_eq_true rfl) [some (.ref a), some (vi so), some (vi g), some (vi w), none, none, none, none, none, none, none] rfl ?_
  intro p e s m args below meth c X hin
  obtain ⟨hX, hI, hC⟩ := id hO
  have hV := hI.1.1.1
  have hJ := hI.1.2
  obtain ⟨n6, n6b⟩ := hV.n6
  obtain ⟨n7, n7b⟩ := hV.n7
  have hz0 := hV.1
  have L285 : ∀ (k : Nat) (i : Nat) (z tr t : Int) (r1 : xR) (h1 : List xR) (M : xM), i + k = nC r1 → (z = 0 ∨ z = 1) → (z = 0 → ∀ x i : Nat, x < nC r1 → fC r1 x 4 = (i : Int) + 1 → fS r1 i 4 = fS r1 i 1) → (0 < t ∧ t ≤ tr ∧ tr ≤ 300) → (sumN (fun i => fS r1 i 4) (nS r1) = sumN (fun i => fS r i 4) (nS r) + t ∧ r1 3 = r 3 - t) → h1 = (r :: h).take 5 → Ob kd rf a M r1 h1 sn → G p l e (rmd 7) s m args below meth c D Bs 11 0 0 (MQ below (xQ D Bs (pI sz kd rf (fun q M' => q = 1 ∧ ∃ (r1 : xR) (h1 : List xR), Ob kd rf a M' r1 h1 sn ∧ Rl r h r1 h1))) args s 0 0 (fun q => Bs ≤ q)) sz kd rf (M) 285 [some (.ref a), some (vi so), some (vi g), some (vi w), some (vi (r 3)), some (vi (sumN (fun i => fS r i 4) (nS r))), some (vi t), some (vi tr), some (vi z), some (vi (i : Int)), none] [] := by
    intro k
    induction k with
    | zero =>
      intro i z tr t r1 h1 M hik hz hfl ht hs hh hO
      obtain ⟨hX1, hI1, hC1⟩ := id hO
      have hV1 := hI1.1.1.1
      obtain ⟨m6, m6b⟩ := hV1.n6
      obtain ⟨m7, m7b⟩ := hV1.n7
      refine G.iload X 287 dL_fuels_285 rfl rfl ?_
      refine G.aload_n X 288 dL_fuels_287 rfl rfl ?_
      refine G.bipush X 290 dL_fuels_288 rfl (by decide) ?_
      refine GS.count X hO ml_L_13 293 dL_fuels_290 rfl (cnt_9) (by decide) (by decide) ⟨Nat.zero_le _, Nat.zero_le _⟩ (Nat.le_of_ble_eq_true rfl) (fun M hO => ?_)
      refine G.icmp_ge X 340 296 dL_fuels_293 (by decide) rfl (by omega) (by omega) (fun hc293 => ?_) (fun hc293 => by exfalso; omega)
      refine G.iload X 342 dL_fuels_340 rfl rfl ?_
      refine G.if_le X 382 345 dL_fuels_342 (by decide) rfl (by omega) (fun hc342 => by exfalso; omega) (fun hc342 => ?_)
      refine G.iload X 347 dL_fuels_345 rfl rfl ?_
      refine G.iload X 349 dL_fuels_347 rfl rfl ?_
      refine G.icmp_gt X 382 352 dL_fuels_349 (by decide) rfl (by omega) (by omega) (fun hc349 => by exfalso; omega) (fun hc349 => ?_)
      refine G.aload_n X 353 dL_fuels_352 rfl rfl ?_
      refine G.iconst X 354 dL_fuels_353 rfl ?_
      refine GS.count X hO ml_L_13 357 dL_fuels_354 rfl (cnt_4) (by decide) (by decide) ⟨Nat.zero_le _, Nat.zero_le _⟩ (Nat.le_of_ble_eq_true rfl) (fun M hO => ?_)
      refine G.iload X 359 dL_fuels_357 rfl rfl ?_
      refine G.iload X 361 dL_fuels_359 rfl rfl ?_
      refine G.iadd X 362 dL_fuels_361 rfl ?_
      refine G.neF X 365 dL_fuels_362 382 (by decide) rfl (hs.1) ?_
      refine G.aload_n X 366 dL_fuels_365 rfl rfl ?_
      refine G.iconst X 367 dL_fuels_366 rfl ?_
      refine GS.count X hO ml_L_13 370 dL_fuels_367 rfl (cnt_3) (by decide) (by decide) ⟨Nat.zero_le _, Nat.zero_le _⟩ (Nat.le_of_ble_eq_true rfl) (fun M hO => ?_)
      refine G.iload X 372 dL_fuels_370 rfl rfl ?_
      refine G.iload X 374 dL_fuels_372 rfl rfl ?_
      refine G.isub X 375 dL_fuels_374 rfl ?_
      refine G.neF X 378 dL_fuels_375 382 (by decide) rfl (hs.2) ?_
      refine G.iconst X 379 dL_fuels_378 rfl ?_
      refine G.goto X 383 dL_fuels_379 (by decide) ?_
      refine G.zret X dL_fuels_383 ⟨Nat.le_refl _, Nat.le_refl _⟩ (Or.inr rfl) ⟨rfl, rfl, rfl, _, rfl, ?_⟩
      exact ⟨rfl, r1, h1, hO, Or.inr hh⟩
    | succ k ih =>
      intro i z tr t r1 h1 M hik hz hfl ht hs hh hO
      obtain ⟨hX1, hI1, hC1⟩ := id hO
      have hV1 := hI1.1.1.1
      obtain ⟨m6, m6b⟩ := hV1.n6
      obtain ⟨m7, m7b⟩ := hV1.n7
      have hi : i < nC r1 := by omega
      refine G.iload X 287 dL_fuels_285 rfl rfl ?_
      refine G.aload_n X 288 dL_fuels_287 rfl rfl ?_
      refine G.bipush X 290 dL_fuels_288 rfl (by decide) ?_
      refine GS.count X hO ml_L_13 293 dL_fuels_290 rfl (cnt_9) (by decide) (by decide) ⟨Nat.zero_le _, Nat.zero_le _⟩ (Nat.le_of_ble_eq_true rfl) (fun M hO => ?_)
      refine G.icmp_ge X 340 296 dL_fuels_293 (by decide) rfl (by omega) (by omega) (fun hc293 => by exfalso; omega) (fun hc293 => ?_)
      rcases hV1.s4 hi with e4 | ⟨m, e4, hm⟩
      · skip
        refine G.aload_n X 297 dL_fuels_296 rfl rfl ?_
        refine G.iload X 299 dL_fuels_297 rfl rfl ?_
        refine G.iconst X 300 dL_fuels_299 rfl ?_
        refine GS.site X hO ml_L_23 303 dL_fuels_300 rfl (sit_4z (i := i) (by omega) (by omega)) (by omega) (by decide) (by decide) ⟨Nat.zero_le _, Nat.zero_le _⟩ (Nat.le_of_ble_eq_true rfl) ?_
        refine G.istore (ls' := [_, _, _, _, _, _, _, _, _, _, _]) X 305 dL_fuels_303 rfl (by decide) rfl ?_
        refine G.iload X 307 dL_fuels_305 rfl rfl ?_
        refine G.if_lt X 334 310 dL_fuels_307 (by decide) rfl (by omega) (fun hc307 => ?_) (fun hc307 => by exact absurd hc307 (by decide))
        refine G.iinc (ls' := [_, _, _, _, _, _, _, _, _, _, _]) X 337 dL_fuels_334 rfl rfl (by decide) rfl ?_
        refine G.goto X 285 dL_fuels_337 (by decide) ?_
        refine G.drop 10 ?_
        exact ih (i + 1) z tr t r1 h1 M (by omega) hz hfl ht hs hh hO
      · have vm := hV1.2.1 m hm
        unfold Vset at vm
        refine G.aload_n X 297 dL_fuels_296 rfl rfl ?_
        refine G.iload X 299 dL_fuels_297 rfl rfl ?_
        refine G.iconst X 300 dL_fuels_299 rfl ?_
        refine GS.site X hO ml_L_23 303 dL_fuels_300 rfl (sit_4p (i := i) (j := m) (by omega) (by omega)) (by omega) (by decide) (by decide) ⟨Nat.zero_le _, Nat.zero_le _⟩ (Nat.le_of_ble_eq_true rfl) ?_
        refine G.istore (ls' := [_, _, _, _, _, _, _, _, _, _, _]) X 305 dL_fuels_303 rfl (by decide) rfl ?_
        refine G.iload X 307 dL_fuels_305 rfl rfl ?_
        refine G.if_lt X 334 310 dL_fuels_307 (by decide) rfl (by omega) (fun hc307 => by omega) (fun hc307 => ?_)
        refine G.iload X 312 dL_fuels_310 rfl rfl ?_
        refine G.if_ne X 334 315 dL_fuels_312 (by decide) rfl (by omega) (fun hc312 => ?_) (fun hc312 => ?_)
        · refine G.iinc (ls' := [_, _, _, _, _, _, _, _, _, _, _]) X 337 dL_fuels_334 rfl rfl (by decide) rfl ?_
          refine G.goto X 285 dL_fuels_337 (by decide) ?_
          refine G.drop 10 ?_
          exact ih (i + 1) z tr t r1 h1 M (by omega) hz hfl ht hs hh hO
        · have hfull := hfl (by omega) i m hi e4
          refine G.aload_n X 316 dL_fuels_315 rfl rfl ?_
          refine G.iload X 318 dL_fuels_316 rfl rfl ?_
          refine G.iconst X 319 dL_fuels_318 rfl ?_
          refine GS.set X hO ml_L_19 322 dL_fuels_319 rfl (set_4 (i := m) (by omega)) (by omega) (by decide) (by decide) ⟨Nat.zero_le _, Nat.zero_le _⟩ (Nat.le_of_ble_eq_true rfl) ?_
          refine G.aload_n X 323 dL_fuels_322 rfl rfl ?_
          refine G.iload X 325 dL_fuels_323 rfl rfl ?_
          refine G.iconst X 326 dL_fuels_325 rfl ?_
          refine GS.set X hO ml_L_19 329 dL_fuels_326 rfl (set_1 (i := m) (by omega)) (by omega) (by decide) (by decide) ⟨Nat.zero_le _, Nat.zero_le _⟩ (Nat.le_of_ble_eq_true rfl) ?_
          refine G.icmp_eq X 334 332 dL_fuels_329 (by decide) rfl (by omega) (by omega) (fun hc329 => ?_) (fun hc329 => by exfalso; omega)
          refine G.iinc (ls' := [_, _, _, _, _, _, _, _, _, _, _]) X 337 dL_fuels_334 rfl rfl (by decide) rfl ?_
          refine G.goto X 285 dL_fuels_337 (by decide) ?_
          refine G.drop 10 ?_
          exact ih (i + 1) z tr t r1 h1 M (by omega) hz hfl ht hs hh hO
  have L216 : ∀ (M : xM), Ob kd rf a M r h sn → G p l e (rmd 7) s m args below meth c D Bs 11 0 0 (MQ below (xQ D Bs (pI sz kd rf (fun q M' => q = 1 ∧ ∃ (r1 : xR) (h1 : List xR), Ob kd rf a M' r1 h1 sn ∧ Rl r h r1 h1))) args s 0 0 (fun q => Bs ≤ q)) sz kd rf (M) 216 [some (.ref a), some (vi so), some (vi g), some (vi w), some (vi (r 3)), some (vi (sumN (fun i => fS r i 4) (nS r))), none, none, none, none, none] [] := by
    intro M hO
    have hl := lessI_lim 300 (r 3)
    rcases fuel_get hI.1 with hfv | ⟨t, r1, hfv, hJ1, ht, hn, hs, hfl⟩
    · skip
      refine G.aload_n X 217 dL_fuels_216 rfl rfl ?_
      refine GS.fuelRunN X hO ml_L_71 220 dL_fuels_217 rfl (hfv)  (by decide) ⟨Nat.zero_le _, Nat.zero_le _⟩ (Nat.le_of_ble_eq_true rfl) (fun M hO => ?_)
      refine G.istore (ls' := [_, _, _, _, _, _, _, _, _, _, _]) X 222 dL_fuels_220 rfl (by decide) rfl ?_
      refine G.iload X 224 dL_fuels_222 rfl rfl ?_
      refine G.sipush X 227 dL_fuels_224 rfl (by decide) ?_
      refine G.icmp_ge X 235 230 dL_fuels_227 (by decide) rfl (by omega) (by omega) (fun hc227 => ?_) (fun hc227 => ?_)
      · refine G.sipush X 238 dL_fuels_235 rfl (by decide) ?_
        refine G.istore (ls' := [_, _, _, _, _, _, _, _, _, _, _]) X 240 dL_fuels_238 rfl (by decide) rfl ?_
        refine G.iload X 242 dL_fuels_240 rfl rfl ?_
        refine G.if_ge X 268 245 dL_fuels_242 (by decide) rfl (by omega) (fun hc242 => by exact absurd hc242 (by decide)) (fun hc242 => ?_)
        refine G.iload X 247 dL_fuels_245 rfl rfl ?_
        refine G.bipush X 249 dL_fuels_247 rfl (by decide) ?_
        refine G.icmp_ne X 266 252 dL_fuels_249 (by decide) rfl (by omega) (by omega) (fun hc249 => by exact absurd hc249 (by decide)) (fun hc249 => ?_)
        refine G.aload_n X 253 dL_fuels_252 rfl rfl ?_
        refine G.iconst X 254 dL_fuels_253 rfl ?_
        refine GS.count X hO ml_L_13 257 dL_fuels_254 rfl (cnt_4) (by decide) (by decide) ⟨Nat.zero_le _, Nat.zero_le _⟩ (Nat.le_of_ble_eq_true rfl) (fun M hO => ?_)
        refine G.iload X 259 dL_fuels_257 rfl rfl ?_
        refine G.neF X 262 dL_fuels_259 266 (by decide) rfl (rfl) ?_
        refine G.iconst X 263 dL_fuels_262 rfl ?_
        refine G.goto X 267 dL_fuels_263 (by decide) ?_
        refine G.zret X dL_fuels_267 ⟨Nat.le_refl _, Nat.le_refl _⟩ (Or.inr rfl) ⟨rfl, rfl, rfl, _, rfl, ?_⟩
        exact ⟨rfl, r, h, hO, Or.inl ⟨rfl, rfl⟩⟩
      · refine G.iload X 232 dL_fuels_230 rfl rfl ?_
        refine G.goto X 238 dL_fuels_232 (by decide) ?_
        refine G.istore (ls' := [_, _, _, _, _, _, _, _, _, _, _]) X 240 dL_fuels_238 rfl (by decide) rfl ?_
        refine G.iload X 242 dL_fuels_240 rfl rfl ?_
        refine G.if_ge X 268 245 dL_fuels_242 (by decide) rfl (by omega) (fun hc242 => by exact absurd hc242 (by decide)) (fun hc242 => ?_)
        refine G.iload X 247 dL_fuels_245 rfl rfl ?_
        refine G.bipush X 249 dL_fuels_247 rfl (by decide) ?_
        refine G.icmp_ne X 266 252 dL_fuels_249 (by decide) rfl (by omega) (by omega) (fun hc249 => by exact absurd hc249 (by decide)) (fun hc249 => ?_)
        refine G.aload_n X 253 dL_fuels_252 rfl rfl ?_
        refine G.iconst X 254 dL_fuels_253 rfl ?_
        refine GS.count X hO ml_L_13 257 dL_fuels_254 rfl (cnt_4) (by decide) (by decide) ⟨Nat.zero_le _, Nat.zero_le _⟩ (Nat.le_of_ble_eq_true rfl) (fun M hO => ?_)
        refine G.iload X 259 dL_fuels_257 rfl rfl ?_
        refine G.neF X 262 dL_fuels_259 266 (by decide) rfl (rfl) ?_
        refine G.iconst X 263 dL_fuels_262 rfl ?_
        refine G.goto X 267 dL_fuels_263 (by decide) ?_
        refine G.zret X dL_fuels_267 ⟨Nat.le_refl _, Nat.le_refl _⟩ (Or.inr rfl) ⟨rfl, rfl, rfl, _, rfl, ?_⟩
        exact ⟨rfl, r, h, hO, Or.inl ⟨rfl, rfl⟩⟩
    · skip
      refine G.aload_n X 217 dL_fuels_216 rfl rfl ?_
      refine GS.fuelRunS X hO ml_L_71 220 dL_fuels_217 rfl (hfv) (hJ1)  (by decide) ⟨Nat.zero_le _, Nat.zero_le _⟩ (Nat.le_of_ble_eq_true rfl) (fun M hO => ?_)
      refine G.istore (ls' := [_, _, _, _, _, _, _, _, _, _, _]) X 222 dL_fuels_220 rfl (by decide) rfl ?_
      refine G.iload X 224 dL_fuels_222 rfl rfl ?_
      refine G.sipush X 227 dL_fuels_224 rfl (by decide) ?_
      refine G.icmp_ge X 235 230 dL_fuels_227 (by decide) rfl (by omega) (by omega) (fun hc227 => ?_) (fun hc227 => ?_)
      · refine G.sipush X 238 dL_fuels_235 rfl (by decide) ?_
        refine G.istore (ls' := [_, _, _, _, _, _, _, _, _, _, _]) X 240 dL_fuels_238 rfl (by decide) rfl ?_
        refine G.iload X 242 dL_fuels_240 rfl rfl ?_
        refine G.if_ge X 268 245 dL_fuels_242 (by decide) rfl (by omega) (fun hc242 => ?_) (fun hc242 => by exfalso; omega)
        refine G.iload X 270 dL_fuels_268 rfl rfl ?_
        refine G.iload X 272 dL_fuels_270 rfl rfl ?_
        refine G.icmp_ne X 279 275 dL_fuels_272 (by decide) rfl (by omega) (by omega) (fun hc272 => ?_) (fun hc272 => ?_)
        · refine G.iconst X 280 dL_fuels_279 rfl ?_
          refine G.istore (ls' := [_, _, _, _, _, _, _, _, _, _, _]) X 282 dL_fuels_280 rfl (by decide) rfl ?_
          refine G.iconst X 283 dL_fuels_282 rfl ?_
          refine G.istore (ls' := [_, _, _, _, _, _, _, _, _, _, _]) X 285 dL_fuels_283 rfl (by decide) rfl ?_
          exact L285 (nC r1) 0 _ _ t r1 _ M (by omega) (Or.inl rfl) (fun _ => hfl (by omega)) (by omega) hs rfl hO
        · refine G.iconst X 276 dL_fuels_275 rfl ?_
          refine G.goto X 280 dL_fuels_276 (by decide) ?_
          refine G.istore (ls' := [_, _, _, _, _, _, _, _, _, _, _]) X 282 dL_fuels_280 rfl (by decide) rfl ?_
          refine G.iconst X 283 dL_fuels_282 rfl ?_
          refine G.istore (ls' := [_, _, _, _, _, _, _, _, _, _, _]) X 285 dL_fuels_283 rfl (by decide) rfl ?_
          exact L285 (nC r1) 0 _ _ t r1 _ M (by omega) (Or.inr rfl) (fun g => absurd g (by decide)) (by omega) hs rfl hO
      · refine G.iload X 232 dL_fuels_230 rfl rfl ?_
        refine G.goto X 238 dL_fuels_232 (by decide) ?_
        refine G.istore (ls' := [_, _, _, _, _, _, _, _, _, _, _]) X 240 dL_fuels_238 rfl (by decide) rfl ?_
        refine G.iload X 242 dL_fuels_240 rfl rfl ?_
        refine G.if_ge X 268 245 dL_fuels_242 (by decide) rfl (by omega) (fun hc242 => ?_) (fun hc242 => by exfalso; omega)
        refine G.iload X 270 dL_fuels_268 rfl rfl ?_
        refine G.iload X 272 dL_fuels_270 rfl rfl ?_
        refine G.icmp_ne X 279 275 dL_fuels_272 (by decide) rfl (by omega) (by omega) (fun hc272 => ?_) (fun hc272 => ?_)
        · refine G.iconst X 280 dL_fuels_279 rfl ?_
          refine G.istore (ls' := [_, _, _, _, _, _, _, _, _, _, _]) X 282 dL_fuels_280 rfl (by decide) rfl ?_
          refine G.iconst X 283 dL_fuels_282 rfl ?_
          refine G.istore (ls' := [_, _, _, _, _, _, _, _, _, _, _]) X 285 dL_fuels_283 rfl (by decide) rfl ?_
          exact L285 (nC r1) 0 _ _ t r1 _ M (by omega) (Or.inl rfl) (fun _ => hfl (by omega)) (by omega) hs rfl hO
        · refine G.iconst X 276 dL_fuels_275 rfl ?_
          refine G.goto X 280 dL_fuels_276 (by decide) ?_
          refine G.istore (ls' := [_, _, _, _, _, _, _, _, _, _, _]) X 282 dL_fuels_280 rfl (by decide) rfl ?_
          refine G.iconst X 283 dL_fuels_282 rfl ?_
          refine G.istore (ls' := [_, _, _, _, _, _, _, _, _, _, _]) X 285 dL_fuels_283 rfl (by decide) rfl ?_
          exact L285 (nC r1) 0 _ _ t r1 _ M (by omega) (Or.inr rfl) (fun g => absurd g (by decide)) (by omega) hs rfl hO
  refine G.aload_n X 1 dL_fuels_0 rfl rfl ?_
  refine G.iconst X 2 dL_fuels_1 rfl ?_
  refine GS.count X hO ml_L_13 5 dL_fuels_2 rfl (cnt_3) (by decide) (by decide) ⟨Nat.zero_le _, Nat.zero_le _⟩ (Nat.le_of_ble_eq_true rfl) (fun M hO => ?_)
  refine G.istore (ls' := [_, _, _, _, _, _, _, _, _, _, _]) X 7 dL_fuels_5 rfl (by decide) rfl ?_
  refine G.aload_n X 8 dL_fuels_7 rfl rfl ?_
  refine G.iconst X 9 dL_fuels_8 rfl ?_
  refine GS.count X hO ml_L_13 12 dL_fuels_9 rfl (cnt_4) (by decide) (by decide) ⟨Nat.zero_le _, Nat.zero_le _⟩ (Nat.le_of_ble_eq_true rfl) (fun M hO => ?_)
  refine G.istore (ls' := [_, _, _, _, _, _, _, _, _, _, _]) X 14 dL_fuels_12 rfl (by decide) rfl ?_
  rcases (by omega : so = 4 ∨ so = 5 ∨ so = 6) with e1 | e1 | e1
  · skip
    refine G.iload_n X 15 dL_fuels_14 rfl rfl ?_
    refine G.iconst X 16 dL_fuels_15 rfl ?_
    refine G.icmp_ne X 89 19 dL_fuels_16 (by decide) rfl (by omega) (by omega) (fun hc16 => by exfalso; omega) (fun hc16 => ?_)
    refine G.iconst X 20 dL_fuels_19 rfl ?_
    refine G.iload_n X 21 dL_fuels_20 rfl rfl ?_
    refine G.iload_n X 22 dL_fuels_21 rfl rfl ?_
    refine G.iconst X 23 dL_fuels_22 rfl ?_
    refine G.iandX X 24 dL_fuels_23 rfl (fun y23 hy23 => ?_)
    refine G.if_ne X 33 27 dL_fuels_24 (by decide) rfl (by omega) (fun hc24 => ?_) (fun hc24 => ?_)
    · refine G.sipush X 36 dL_fuels_33 rfl (by decide) ?_
      refine GS.low X ml_L_52 39 dL_fuels_36 rfl (by omega) (by decide) ⟨Nat.zero_le _, Nat.zero_le _⟩ (Nat.le_of_ble_eq_true rfl) (fun j36 hj36 => ?_)
      refine G.iadd X 40 dL_fuels_39 rfl ?_
      refine G.istore (ls' := [_, _, _, _, _, _, _, _, _, _, _]) X 42 dL_fuels_40 rfl (by decide) rfl ?_
      by_cases hb : 50000 < r 3 + (1 + (j36 : Int))
      · skip
        refine G.aload_n X 43 dL_fuels_42 rfl rfl ?_
        refine G.iload X 45 dL_fuels_43 rfl rfl ?_
        refine GS.buyN X hO ml_L_64 48 dL_fuels_45 rfl (buy_f (by omega) hb) (by omega) (by decide) ⟨Nat.zero_le _, Nat.zero_le _⟩ (Nat.le_of_ble_eq_true rfl) (fun M hO => ?_)
        refine G.iload X 50 dL_fuels_48 rfl rfl ?_
        refine G.iload X 52 dL_fuels_50 rfl rfl ?_
        refine G.iadd X 53 dL_fuels_52 rfl ?_
        refine G.ldc (n := 50000) X ko_L_67 55 dL_fuels_53 rfl (by decide) ?_
        refine G.icmp_le X 63 58 dL_fuels_55 (by decide) rfl (by omega) (by omega) (fun hc55 => by exfalso; omega) (fun hc55 => ?_)
        refine G.bipush X 60 dL_fuels_58 rfl (by decide) ?_
        refine G.goto X 68 dL_fuels_60 (by decide) ?_
        refine G.icmp_ne X 87 71 dL_fuels_68 (by decide) rfl (by omega) (by omega) (fun hc68 => by exact absurd hc68 (by decide)) (fun hc68 => ?_)
        refine G.aload_n X 72 dL_fuels_71 rfl rfl ?_
        refine G.sipush X 75 dL_fuels_72 rfl (by decide) ?_
        refine GS.buyN X hO ml_L_64 78 dL_fuels_75 rfl (buy_b (by omega)) (by decide) (by decide) ⟨Nat.zero_le _, Nat.zero_le _⟩ (Nat.le_of_ble_eq_true rfl) (fun M hO => ?_)
        refine G.bipush X 80 dL_fuels_78 rfl (by decide) ?_
        refine G.icmp_ne X 87 83 dL_fuels_80 (by decide) rfl (by omega) (by omega) (fun hc80 => by exact absurd hc80 (by decide)) (fun hc80 => ?_)
        refine G.iconst X 84 dL_fuels_83 rfl ?_
        refine G.goto X 88 dL_fuels_84 (by decide) ?_
        refine G.zret X dL_fuels_88 ⟨Nat.le_refl _, Nat.le_refl _⟩ (Or.inr rfl) ⟨rfl, rfl, rfl, _, rfl, ?_⟩
        exact ⟨rfl, r, h, hO, Or.inl ⟨rfl, rfl⟩⟩
      · skip
        refine G.aload_n X 43 dL_fuels_42 rfl rfl ?_
        refine G.iload X 45 dL_fuels_43 rfl rfl ?_
        refine GS.buyS X hO ml_L_64 48 dL_fuels_45 rfl (buy_s (by omega) hb) (hI.1.buy (by omega) (by omega)) (by omega) (by decide) ⟨Nat.zero_le _, Nat.zero_le _⟩ (Nat.le_of_ble_eq_true rfl) (fun M hO => ?_)
        refine G.iload X 50 dL_fuels_48 rfl rfl ?_
        refine G.iload X 52 dL_fuels_50 rfl rfl ?_
        refine G.iadd X 53 dL_fuels_52 rfl ?_
        refine G.ldc (n := 50000) X ko_L_67 55 dL_fuels_53 rfl (by decide) ?_
        refine G.icmp_le X 63 58 dL_fuels_55 (by decide) rfl (by omega) (by omega) (fun hc55 => ?_) (fun hc55 => by exfalso; omega)
        refine G.iload X 65 dL_fuels_63 rfl rfl ?_
        refine G.iload X 67 dL_fuels_65 rfl rfl ?_
        refine G.iadd X 68 dL_fuels_67 rfl ?_
        refine G.neF X 71 dL_fuels_68 87 (by decide) rfl (rfl) ?_
        refine G.aload_n X 72 dL_fuels_71 rfl rfl ?_
        refine G.sipush X 75 dL_fuels_72 rfl (by decide) ?_
        refine GS.buyN X hO ml_L_64 78 dL_fuels_75 rfl (buy_b (by omega)) (by decide) (by decide) ⟨Nat.zero_le _, Nat.zero_le _⟩ (Nat.le_of_ble_eq_true rfl) (fun M hO => ?_)
        refine G.bipush X 80 dL_fuels_78 rfl (by decide) ?_
        refine G.icmp_ne X 87 83 dL_fuels_80 (by decide) rfl (by omega) (by omega) (fun hc80 => by exact absurd hc80 (by decide)) (fun hc80 => ?_)
        refine G.iconst X 84 dL_fuels_83 rfl ?_
        refine G.goto X 88 dL_fuels_84 (by decide) ?_
        refine G.zret X dL_fuels_88 ⟨Nat.le_refl _, Nat.le_refl _⟩ (Or.inr rfl) ⟨rfl, rfl, rfl, _, rfl, ?_⟩
        exact ⟨rfl, _, _, hO, Or.inr rfl⟩
    · refine G.sipush X 30 dL_fuels_27 rfl (by decide) ?_
      refine G.goto X 36 dL_fuels_30 (by decide) ?_
      refine GS.low X ml_L_52 39 dL_fuels_36 rfl (by omega) (by decide) ⟨Nat.zero_le _, Nat.zero_le _⟩ (Nat.le_of_ble_eq_true rfl) (fun j36 hj36 => ?_)
      refine G.iadd X 40 dL_fuels_39 rfl ?_
      refine G.istore (ls' := [_, _, _, _, _, _, _, _, _, _, _]) X 42 dL_fuels_40 rfl (by decide) rfl ?_
      by_cases hb : 50000 < r 3 + (1 + (j36 : Int))
      · skip
        refine G.aload_n X 43 dL_fuels_42 rfl rfl ?_
        refine G.iload X 45 dL_fuels_43 rfl rfl ?_
        refine GS.buyN X hO ml_L_64 48 dL_fuels_45 rfl (buy_f (by omega) hb) (by omega) (by decide) ⟨Nat.zero_le _, Nat.zero_le _⟩ (Nat.le_of_ble_eq_true rfl) (fun M hO => ?_)
        refine G.iload X 50 dL_fuels_48 rfl rfl ?_
        refine G.iload X 52 dL_fuels_50 rfl rfl ?_
        refine G.iadd X 53 dL_fuels_52 rfl ?_
        refine G.ldc (n := 50000) X ko_L_67 55 dL_fuels_53 rfl (by decide) ?_
        refine G.icmp_le X 63 58 dL_fuels_55 (by decide) rfl (by omega) (by omega) (fun hc55 => by exfalso; omega) (fun hc55 => ?_)
        refine G.bipush X 60 dL_fuels_58 rfl (by decide) ?_
        refine G.goto X 68 dL_fuels_60 (by decide) ?_
        refine G.icmp_ne X 87 71 dL_fuels_68 (by decide) rfl (by omega) (by omega) (fun hc68 => by exact absurd hc68 (by decide)) (fun hc68 => ?_)
        refine G.aload_n X 72 dL_fuels_71 rfl rfl ?_
        refine G.sipush X 75 dL_fuels_72 rfl (by decide) ?_
        refine GS.buyN X hO ml_L_64 78 dL_fuels_75 rfl (buy_b (by omega)) (by decide) (by decide) ⟨Nat.zero_le _, Nat.zero_le _⟩ (Nat.le_of_ble_eq_true rfl) (fun M hO => ?_)
        refine G.bipush X 80 dL_fuels_78 rfl (by decide) ?_
        refine G.icmp_ne X 87 83 dL_fuels_80 (by decide) rfl (by omega) (by omega) (fun hc80 => by exact absurd hc80 (by decide)) (fun hc80 => ?_)
        refine G.iconst X 84 dL_fuels_83 rfl ?_
        refine G.goto X 88 dL_fuels_84 (by decide) ?_
        refine G.zret X dL_fuels_88 ⟨Nat.le_refl _, Nat.le_refl _⟩ (Or.inr rfl) ⟨rfl, rfl, rfl, _, rfl, ?_⟩
        exact ⟨rfl, r, h, hO, Or.inl ⟨rfl, rfl⟩⟩
      · skip
        refine G.aload_n X 43 dL_fuels_42 rfl rfl ?_
        refine G.iload X 45 dL_fuels_43 rfl rfl ?_
        refine GS.buyS X hO ml_L_64 48 dL_fuels_45 rfl (buy_s (by omega) hb) (hI.1.buy (by omega) (by omega)) (by omega) (by decide) ⟨Nat.zero_le _, Nat.zero_le _⟩ (Nat.le_of_ble_eq_true rfl) (fun M hO => ?_)
        refine G.iload X 50 dL_fuels_48 rfl rfl ?_
        refine G.iload X 52 dL_fuels_50 rfl rfl ?_
        refine G.iadd X 53 dL_fuels_52 rfl ?_
        refine G.ldc (n := 50000) X ko_L_67 55 dL_fuels_53 rfl (by decide) ?_
        refine G.icmp_le X 63 58 dL_fuels_55 (by decide) rfl (by omega) (by omega) (fun hc55 => ?_) (fun hc55 => by exfalso; omega)
        refine G.iload X 65 dL_fuels_63 rfl rfl ?_
        refine G.iload X 67 dL_fuels_65 rfl rfl ?_
        refine G.iadd X 68 dL_fuels_67 rfl ?_
        refine G.neF X 71 dL_fuels_68 87 (by decide) rfl (rfl) ?_
        refine G.aload_n X 72 dL_fuels_71 rfl rfl ?_
        refine G.sipush X 75 dL_fuels_72 rfl (by decide) ?_
        refine GS.buyN X hO ml_L_64 78 dL_fuels_75 rfl (buy_b (by omega)) (by decide) (by decide) ⟨Nat.zero_le _, Nat.zero_le _⟩ (Nat.le_of_ble_eq_true rfl) (fun M hO => ?_)
        refine G.bipush X 80 dL_fuels_78 rfl (by decide) ?_
        refine G.icmp_ne X 87 83 dL_fuels_80 (by decide) rfl (by omega) (by omega) (fun hc80 => by exact absurd hc80 (by decide)) (fun hc80 => ?_)
        refine G.iconst X 84 dL_fuels_83 rfl ?_
        refine G.goto X 88 dL_fuels_84 (by decide) ?_
        refine G.zret X dL_fuels_88 ⟨Nat.le_refl _, Nat.le_refl _⟩ (Or.inr rfl) ⟨rfl, rfl, rfl, _, rfl, ?_⟩
        exact ⟨rfl, _, _, hO, Or.inr rfl⟩
  · skip
    refine G.iload_n X 15 dL_fuels_14 rfl rfl ?_
    refine G.iconst X 16 dL_fuels_15 rfl ?_
    refine G.icmp_ne X 89 19 dL_fuels_16 (by decide) rfl (by omega) (by omega) (fun hc16 => ?_) (fun hc16 => by exfalso; omega)
    refine G.iload_n X 90 dL_fuels_89 rfl rfl ?_
    refine G.iconst X 91 dL_fuels_90 rfl ?_
    refine G.icmp_ne X 216 94 dL_fuels_91 (by decide) rfl (by omega) (by omega) (fun hc91 => by exfalso; omega) (fun hc91 => ?_)
    by_cases hz : r 6 ≤ 0
    · skip
      refine G.aload_n X 95 dL_fuels_94 rfl rfl ?_
      refine G.bipush X 97 dL_fuels_95 rfl (by decide) ?_
      refine GS.count X hO ml_L_13 100 dL_fuels_97 rfl (cnt_7) (by decide) (by decide) ⟨Nat.zero_le _, Nat.zero_le _⟩ (Nat.le_of_ble_eq_true rfl) (fun M hO => ?_)
      refine G.if_le X 216 103 dL_fuels_100 (by decide) rfl (by omega) (fun hc100 => ?_) (fun hc100 => by exfalso; omega)
      exact L216 M hO
    · skip
      refine G.aload_n X 95 dL_fuels_94 rfl rfl ?_
      refine G.bipush X 97 dL_fuels_95 rfl (by decide) ?_
      refine GS.count X hO ml_L_13 100 dL_fuels_97 rfl (cnt_7) (by decide) (by decide) ⟨Nat.zero_le _, Nat.zero_le _⟩ (Nat.le_of_ble_eq_true rfl) (fun M hO => ?_)
      refine G.if_le X 216 103 dL_fuels_100 (by decide) rfl (by omega) (fun hc100 => by exfalso; omega) (fun hc100 => ?_)
      refine G.iload_n X 104 dL_fuels_103 rfl rfl ?_
      refine G.aload_n X 105 dL_fuels_104 rfl rfl ?_
      refine G.bipush X 107 dL_fuels_105 rfl (by decide) ?_
      refine GS.count X hO ml_L_13 110 dL_fuels_107 rfl (cnt_7) (by decide) (by decide) ⟨Nat.zero_le _, Nat.zero_le _⟩ (Nat.le_of_ble_eq_true rfl) (fun M hO => ?_)
      refine GS.low X ml_L_52 113 dL_fuels_110 rfl (by omega) (by decide) ⟨Nat.zero_le _, Nat.zero_le _⟩ (Nat.le_of_ble_eq_true rfl) (fun j110 hj110 => ?_)
      refine G.istore (ls' := [_, _, _, _, _, _, _, _, _, _, _]) X 115 dL_fuels_113 rfl (by decide) rfl ?_
      have vm := hV.2.1 j110 (by omega)
      unfold Vset at vm
      have hlo := litF_or r j110
      rcases hV.i5 (i := j110) (by omega) with h5 | ⟨y, h5, hy⟩
      · skip
        refine G.aload_n X 116 dL_fuels_115 rfl rfl ?_
        refine G.iload X 118 dL_fuels_116 rfl rfl ?_
        refine G.iconst X 119 dL_fuels_118 rfl ?_
        refine GS.set X hO ml_L_19 122 dL_fuels_119 rfl (set_1 (i := j110) (by omega)) (by omega) (by decide) (by decide) ⟨Nat.zero_le _, Nat.zero_le _⟩ (Nat.le_of_ble_eq_true rfl) ?_
        refine G.aload_n X 123 dL_fuels_122 rfl rfl ?_
        refine G.iload X 125 dL_fuels_123 rfl rfl ?_
        refine G.iconst X 126 dL_fuels_125 rfl ?_
        refine GS.set X hO ml_L_19 129 dL_fuels_126 rfl (set_4 (i := j110) (by omega)) (by omega) (by decide) (by decide) ⟨Nat.zero_le _, Nat.zero_le _⟩ (Nat.le_of_ble_eq_true rfl) ?_
        refine G.isub X 130 dL_fuels_129 rfl ?_
        by_cases hl : litF r j110 ≤ 0
        · skip
          refine G.istore (ls' := [_, _, _, _, _, _, _, _, _, _, _]) X 132 dL_fuels_130 rfl (by decide) rfl ?_
          refine G.iload X 134 dL_fuels_132 rfl rfl ?_
          refine G.iload X 136 dL_fuels_134 rfl rfl ?_
          refine G.icmp_ge X 144 139 dL_fuels_136 (by decide) rfl (by omega) (by omega) (fun hc136 => ?_) (fun hc136 => ?_)
          · refine G.iload X 146 dL_fuels_144 rfl rfl ?_
            refine G.istore (ls' := [_, _, _, _, _, _, _, _, _, _, _]) X 148 dL_fuels_146 rfl (by decide) rfl ?_
            refine G.aload_n X 149 dL_fuels_148 rfl rfl ?_
            refine G.iload X 151 dL_fuels_149 rfl rfl ?_
            refine G.iconst X 152 dL_fuels_151 rfl ?_
            refine GS.set X hO ml_L_19 155 dL_fuels_152 rfl (set_5z (i := j110) (by omega) (by omega)) (by omega) (by decide) (by decide) ⟨Nat.zero_le _, Nat.zero_le _⟩ (Nat.le_of_ble_eq_true rfl) ?_
            refine G.if_lt X 162 158 dL_fuels_155 (by decide) rfl (by omega) (fun hc155 => ?_) (fun hc155 => by exact absurd hc155 (by decide))
            refine G.iconst X 163 dL_fuels_162 rfl ?_
            refine G.istore (ls' := [_, _, _, _, _, _, _, _, _, _, _]) X 165 dL_fuels_163 rfl (by decide) rfl ?_
            refine G.aload_n X 166 dL_fuels_165 rfl rfl ?_
            refine G.iload X 168 dL_fuels_166 rfl rfl ?_
            refine GS.fillN X hO ml_L_68 171 dL_fuels_168 rfl (fill_z (by omega) h5 hl) (by omega) (by decide) ⟨Nat.zero_le _, Nat.zero_le _⟩ (Nat.le_of_ble_eq_true rfl) (fun M hO => ?_)
            refine G.iload X 173 dL_fuels_171 rfl rfl ?_
            refine G.if_eq X 181 176 dL_fuels_173 (by decide) rfl (by omega) (fun hc173 => ?_) (fun hc173 => by exact absurd hc173 (by decide))
            refine G.iload X 183 dL_fuels_181 rfl rfl ?_
            refine G.if_ne X 191 186 dL_fuels_183 (by decide) rfl (by omega) (fun hc183 => by exfalso; omega) (fun hc183 => ?_)
            refine G.bipush X 188 dL_fuels_186 rfl (by decide) ?_
            refine G.goto X 193 dL_fuels_188 (by decide) ?_
            refine G.icmp_ne X 214 196 dL_fuels_193 (by decide) rfl (by omega) (by omega) (fun hc193 => by exact absurd hc193 (by decide)) (fun hc193 => ?_)
            refine G.aload_n X 197 dL_fuels_196 rfl rfl ?_
            refine G.aload_n X 198 dL_fuels_197 rfl rfl ?_
            refine G.bipush X 200 dL_fuels_198 rfl (by decide) ?_
            refine GS.count X hO ml_L_13 203 dL_fuels_200 rfl (cnt_7) (by decide) (by decide) ⟨Nat.zero_le _, Nat.zero_le _⟩ (Nat.le_of_ble_eq_true rfl) (fun M hO => ?_)
            refine GS.fillN X hO ml_L_68 206 dL_fuels_203 rfl (fill_no (by omega)) (by omega) (by decide) ⟨Nat.zero_le _, Nat.zero_le _⟩ (Nat.le_of_ble_eq_true rfl) (fun M hO => ?_)
            refine G.iconst X 207 dL_fuels_206 rfl ?_
            refine G.icmp_ne X 214 210 dL_fuels_207 (by decide) rfl (by omega) (by omega) (fun hc207 => by exact absurd hc207 (by decide)) (fun hc207 => ?_)
            refine G.iconst X 211 dL_fuels_210 rfl ?_
            refine G.goto X 215 dL_fuels_211 (by decide) ?_
            refine G.zret X dL_fuels_215 ⟨Nat.le_refl _, Nat.le_refl _⟩ (Or.inr rfl) ⟨rfl, rfl, rfl, _, rfl, ?_⟩
            exact ⟨rfl, r, h, hO, Or.inl ⟨rfl, rfl⟩⟩
          · refine G.iload X 141 dL_fuels_139 rfl rfl ?_
            refine G.goto X 146 dL_fuels_141 (by decide) ?_
            refine G.istore (ls' := [_, _, _, _, _, _, _, _, _, _, _]) X 148 dL_fuels_146 rfl (by decide) rfl ?_
            refine G.aload_n X 149 dL_fuels_148 rfl rfl ?_
            refine G.iload X 151 dL_fuels_149 rfl rfl ?_
            refine G.iconst X 152 dL_fuels_151 rfl ?_
            refine GS.set X hO ml_L_19 155 dL_fuels_152 rfl (set_5z (i := j110) (by omega) (by omega)) (by omega) (by decide) (by decide) ⟨Nat.zero_le _, Nat.zero_le _⟩ (Nat.le_of_ble_eq_true rfl) ?_
            refine G.if_lt X 162 158 dL_fuels_155 (by decide) rfl (by omega) (fun hc155 => ?_) (fun hc155 => by exact absurd hc155 (by decide))
            refine G.iconst X 163 dL_fuels_162 rfl ?_
            refine G.istore (ls' := [_, _, _, _, _, _, _, _, _, _, _]) X 165 dL_fuels_163 rfl (by decide) rfl ?_
            refine G.aload_n X 166 dL_fuels_165 rfl rfl ?_
            refine G.iload X 168 dL_fuels_166 rfl rfl ?_
            refine GS.fillN X hO ml_L_68 171 dL_fuels_168 rfl (fill_z (by omega) h5 hl) (by omega) (by decide) ⟨Nat.zero_le _, Nat.zero_le _⟩ (Nat.le_of_ble_eq_true rfl) (fun M hO => ?_)
            refine G.iload X 173 dL_fuels_171 rfl rfl ?_
            refine G.if_eq X 181 176 dL_fuels_173 (by decide) rfl (by omega) (fun hc173 => ?_) (fun hc173 => by exact absurd hc173 (by decide))
            refine G.iload X 183 dL_fuels_181 rfl rfl ?_
            refine G.if_ne X 191 186 dL_fuels_183 (by decide) rfl (by omega) (fun hc183 => by exfalso; omega) (fun hc183 => ?_)
            refine G.bipush X 188 dL_fuels_186 rfl (by decide) ?_
            refine G.goto X 193 dL_fuels_188 (by decide) ?_
            refine G.icmp_ne X 214 196 dL_fuels_193 (by decide) rfl (by omega) (by omega) (fun hc193 => by exact absurd hc193 (by decide)) (fun hc193 => ?_)
            refine G.aload_n X 197 dL_fuels_196 rfl rfl ?_
            refine G.aload_n X 198 dL_fuels_197 rfl rfl ?_
            refine G.bipush X 200 dL_fuels_198 rfl (by decide) ?_
            refine GS.count X hO ml_L_13 203 dL_fuels_200 rfl (cnt_7) (by decide) (by decide) ⟨Nat.zero_le _, Nat.zero_le _⟩ (Nat.le_of_ble_eq_true rfl) (fun M hO => ?_)
            refine GS.fillN X hO ml_L_68 206 dL_fuels_203 rfl (fill_no (by omega)) (by omega) (by decide) ⟨Nat.zero_le _, Nat.zero_le _⟩ (Nat.le_of_ble_eq_true rfl) (fun M hO => ?_)
            refine G.iconst X 207 dL_fuels_206 rfl ?_
            refine G.icmp_ne X 214 210 dL_fuels_207 (by decide) rfl (by omega) (by omega) (fun hc207 => by exact absurd hc207 (by decide)) (fun hc207 => ?_)
            refine G.iconst X 211 dL_fuels_210 rfl ?_
            refine G.goto X 215 dL_fuels_211 (by decide) ?_
            refine G.zret X dL_fuels_215 ⟨Nat.le_refl _, Nat.le_refl _⟩ (Or.inr rfl) ⟨rfl, rfl, rfl, _, rfl, ?_⟩
            exact ⟨rfl, r, h, hO, Or.inl ⟨rfl, rfl⟩⟩
        · obtain ⟨r1, hr1⟩ : ∃ r1, r1 = fillR r j110 (litF r j110) := ⟨_, rfl⟩
          have hJ1 : Jr r1 := by
            rw [hr1]
            exact hI.1.fill (by omega) (by omega) (by omega)
          have q6 : r1 6 = r 6 := by
            rw [hr1]
            unfold fillR
            rw [fu_ne (by decide), at_fuS (by decide)]
          refine G.istore (ls' := [_, _, _, _, _, _, _, _, _, _, _]) X 132 dL_fuels_130 rfl (by decide) rfl ?_
          refine G.iload X 134 dL_fuels_132 rfl rfl ?_
          refine G.iload X 136 dL_fuels_134 rfl rfl ?_
          refine G.icmp_ge X 144 139 dL_fuels_136 (by decide) rfl (by omega) (by omega) (fun hc136 => ?_) (fun hc136 => ?_)
          · refine G.iload X 146 dL_fuels_144 rfl rfl ?_
            refine G.istore (ls' := [_, _, _, _, _, _, _, _, _, _, _]) X 148 dL_fuels_146 rfl (by decide) rfl ?_
            refine G.aload_n X 149 dL_fuels_148 rfl rfl ?_
            refine G.iload X 151 dL_fuels_149 rfl rfl ?_
            refine G.iconst X 152 dL_fuels_151 rfl ?_
            refine GS.set X hO ml_L_19 155 dL_fuels_152 rfl (set_5z (i := j110) (by omega) (by omega)) (by omega) (by decide) (by decide) ⟨Nat.zero_le _, Nat.zero_le _⟩ (Nat.le_of_ble_eq_true rfl) ?_
            refine G.if_lt X 162 158 dL_fuels_155 (by decide) rfl (by omega) (fun hc155 => ?_) (fun hc155 => by exact absurd hc155 (by decide))
            refine G.iconst X 163 dL_fuels_162 rfl ?_
            refine G.istore (ls' := [_, _, _, _, _, _, _, _, _, _, _]) X 165 dL_fuels_163 rfl (by decide) rfl ?_
            refine G.aload_n X 166 dL_fuels_165 rfl rfl ?_
            refine G.iload X 168 dL_fuels_166 rfl rfl ?_
            refine GS.fillS X hO ml_L_68 171 dL_fuels_168 rfl ((fill_s (by omega) h5 hl).trans (by rw [← hr1])) (hJ1) (by omega) (by decide) ⟨Nat.zero_le _, Nat.zero_le _⟩ (Nat.le_of_ble_eq_true rfl) (fun M hO => ?_)
            refine G.iload X 173 dL_fuels_171 rfl rfl ?_
            refine G.if_eq X 181 176 dL_fuels_173 (by decide) rfl (by omega) (fun hc173 => ?_) (fun hc173 => by exact absurd hc173 (by decide))
            refine G.iload X 183 dL_fuels_181 rfl rfl ?_
            refine G.if_ne X 191 186 dL_fuels_183 (by decide) rfl (by omega) (fun hc183 => ?_) (fun hc183 => by exfalso; omega)
            refine G.iload X 193 dL_fuels_191 rfl rfl ?_
            refine G.icmp_ne X 214 196 dL_fuels_193 (by decide) rfl (by omega) (by omega) (fun hc193 => by exfalso; omega) (fun hc193 => ?_)
            refine G.aload_n X 197 dL_fuels_196 rfl rfl ?_
            refine G.aload_n X 198 dL_fuels_197 rfl rfl ?_
            refine G.bipush X 200 dL_fuels_198 rfl (by decide) ?_
            refine GS.count X hO ml_L_13 203 dL_fuels_200 rfl (cnt_7) (by decide) (by decide) ⟨Nat.zero_le _, Nat.zero_le _⟩ (Nat.le_of_ble_eq_true rfl) (fun M hO => ?_)
            refine GS.fillN X hO ml_L_68 206 dL_fuels_203 rfl (fill_no (by omega)) (by omega) (by decide) ⟨Nat.zero_le _, Nat.zero_le _⟩ (Nat.le_of_ble_eq_true rfl) (fun M hO => ?_)
            refine G.iconst X 207 dL_fuels_206 rfl ?_
            refine G.icmp_ne X 214 210 dL_fuels_207 (by decide) rfl (by omega) (by omega) (fun hc207 => by exact absurd hc207 (by decide)) (fun hc207 => ?_)
            refine G.iconst X 211 dL_fuels_210 rfl ?_
            refine G.goto X 215 dL_fuels_211 (by decide) ?_
            refine G.zret X dL_fuels_215 ⟨Nat.le_refl _, Nat.le_refl _⟩ (Or.inr rfl) ⟨rfl, rfl, rfl, _, rfl, ?_⟩
            exact ⟨rfl, _, _, hO, Or.inr rfl⟩
          · refine G.iload X 141 dL_fuels_139 rfl rfl ?_
            refine G.goto X 146 dL_fuels_141 (by decide) ?_
            refine G.istore (ls' := [_, _, _, _, _, _, _, _, _, _, _]) X 148 dL_fuels_146 rfl (by decide) rfl ?_
            refine G.aload_n X 149 dL_fuels_148 rfl rfl ?_
            refine G.iload X 151 dL_fuels_149 rfl rfl ?_
            refine G.iconst X 152 dL_fuels_151 rfl ?_
            refine GS.set X hO ml_L_19 155 dL_fuels_152 rfl (set_5z (i := j110) (by omega) (by omega)) (by omega) (by decide) (by decide) ⟨Nat.zero_le _, Nat.zero_le _⟩ (Nat.le_of_ble_eq_true rfl) ?_
            refine G.if_lt X 162 158 dL_fuels_155 (by decide) rfl (by omega) (fun hc155 => ?_) (fun hc155 => by exact absurd hc155 (by decide))
            refine G.iconst X 163 dL_fuels_162 rfl ?_
            refine G.istore (ls' := [_, _, _, _, _, _, _, _, _, _, _]) X 165 dL_fuels_163 rfl (by decide) rfl ?_
            refine G.aload_n X 166 dL_fuels_165 rfl rfl ?_
            refine G.iload X 168 dL_fuels_166 rfl rfl ?_
            refine GS.fillS X hO ml_L_68 171 dL_fuels_168 rfl ((fill_s (by omega) h5 hl).trans (by rw [← hr1])) (hJ1) (by omega) (by decide) ⟨Nat.zero_le _, Nat.zero_le _⟩ (Nat.le_of_ble_eq_true rfl) (fun M hO => ?_)
            refine G.iload X 173 dL_fuels_171 rfl rfl ?_
            refine G.if_eq X 181 176 dL_fuels_173 (by decide) rfl (by omega) (fun hc173 => ?_) (fun hc173 => by exact absurd hc173 (by decide))
            refine G.iload X 183 dL_fuels_181 rfl rfl ?_
            refine G.if_ne X 191 186 dL_fuels_183 (by decide) rfl (by omega) (fun hc183 => ?_) (fun hc183 => by exfalso; omega)
            refine G.iload X 193 dL_fuels_191 rfl rfl ?_
            refine G.icmp_ne X 214 196 dL_fuels_193 (by decide) rfl (by omega) (by omega) (fun hc193 => by exfalso; omega) (fun hc193 => ?_)
            refine G.aload_n X 197 dL_fuels_196 rfl rfl ?_
            refine G.aload_n X 198 dL_fuels_197 rfl rfl ?_
            refine G.bipush X 200 dL_fuels_198 rfl (by decide) ?_
            refine GS.count X hO ml_L_13 203 dL_fuels_200 rfl (cnt_7) (by decide) (by decide) ⟨Nat.zero_le _, Nat.zero_le _⟩ (Nat.le_of_ble_eq_true rfl) (fun M hO => ?_)
            refine GS.fillN X hO ml_L_68 206 dL_fuels_203 rfl (fill_no (by omega)) (by omega) (by decide) ⟨Nat.zero_le _, Nat.zero_le _⟩ (Nat.le_of_ble_eq_true rfl) (fun M hO => ?_)
            refine G.iconst X 207 dL_fuels_206 rfl ?_
            refine G.icmp_ne X 214 210 dL_fuels_207 (by decide) rfl (by omega) (by omega) (fun hc207 => by exact absurd hc207 (by decide)) (fun hc207 => ?_)
            refine G.iconst X 211 dL_fuels_210 rfl ?_
            refine G.goto X 215 dL_fuels_211 (by decide) ?_
            refine G.zret X dL_fuels_215 ⟨Nat.le_refl _, Nat.le_refl _⟩ (Or.inr rfl) ⟨rfl, rfl, rfl, _, rfl, ?_⟩
            exact ⟨rfl, _, _, hO, Or.inr rfl⟩
      · skip
        refine G.aload_n X 116 dL_fuels_115 rfl rfl ?_
        refine G.iload X 118 dL_fuels_116 rfl rfl ?_
        refine G.iconst X 119 dL_fuels_118 rfl ?_
        refine GS.set X hO ml_L_19 122 dL_fuels_119 rfl (set_1 (i := j110) (by omega)) (by omega) (by decide) (by decide) ⟨Nat.zero_le _, Nat.zero_le _⟩ (Nat.le_of_ble_eq_true rfl) ?_
        refine G.aload_n X 123 dL_fuels_122 rfl rfl ?_
        refine G.iload X 125 dL_fuels_123 rfl rfl ?_
        refine G.iconst X 126 dL_fuels_125 rfl ?_
        refine GS.set X hO ml_L_19 129 dL_fuels_126 rfl (set_4 (i := j110) (by omega)) (by omega) (by decide) (by decide) ⟨Nat.zero_le _, Nat.zero_le _⟩ (Nat.le_of_ble_eq_true rfl) ?_
        refine G.isub X 130 dL_fuels_129 rfl ?_
        refine G.istore (ls' := [_, _, _, _, _, _, _, _, _, _, _]) X 132 dL_fuels_130 rfl (by decide) rfl ?_
        refine G.iload X 134 dL_fuels_132 rfl rfl ?_
        refine G.iload X 136 dL_fuels_134 rfl rfl ?_
        refine G.icmp_ge X 144 139 dL_fuels_136 (by decide) rfl (by omega) (by omega) (fun hc136 => ?_) (fun hc136 => ?_)
        · refine G.iload X 146 dL_fuels_144 rfl rfl ?_
          refine G.istore (ls' := [_, _, _, _, _, _, _, _, _, _, _]) X 148 dL_fuels_146 rfl (by decide) rfl ?_
          refine G.aload_n X 149 dL_fuels_148 rfl rfl ?_
          refine G.iload X 151 dL_fuels_149 rfl rfl ?_
          refine G.iconst X 152 dL_fuels_151 rfl ?_
          refine GS.set X hO ml_L_19 155 dL_fuels_152 rfl (set_5p (i := j110) (j := y) (by omega) (by omega)) (by omega) (by decide) (by decide) ⟨Nat.zero_le _, Nat.zero_le _⟩ (Nat.le_of_ble_eq_true rfl) ?_
          refine G.if_lt X 162 158 dL_fuels_155 (by decide) rfl (by omega) (fun hc155 => by omega) (fun hc155 => ?_)
          refine G.iconst X 159 dL_fuels_158 rfl ?_
          refine G.goto X 163 dL_fuels_159 (by decide) ?_
          refine G.istore (ls' := [_, _, _, _, _, _, _, _, _, _, _]) X 165 dL_fuels_163 rfl (by decide) rfl ?_
          refine G.aload_n X 166 dL_fuels_165 rfl rfl ?_
          refine G.iload X 168 dL_fuels_166 rfl rfl ?_
          refine GS.fillN X hO ml_L_68 171 dL_fuels_168 rfl (fill_a (by omega) (by omega)) (by omega) (by decide) ⟨Nat.zero_le _, Nat.zero_le _⟩ (Nat.le_of_ble_eq_true rfl) (fun M hO => ?_)
          refine G.iload X 173 dL_fuels_171 rfl rfl ?_
          refine G.if_eq X 181 176 dL_fuels_173 (by decide) rfl (by omega) (fun hc173 => by exact absurd hc173 (by decide)) (fun hc173 => ?_)
          refine G.bipush X 178 dL_fuels_176 rfl (by decide) ?_
          refine G.goto X 193 dL_fuels_178 (by decide) ?_
          refine G.icmp_ne X 214 196 dL_fuels_193 (by decide) rfl (by omega) (by omega) (fun hc193 => by exact absurd hc193 (by decide)) (fun hc193 => ?_)
          refine G.aload_n X 197 dL_fuels_196 rfl rfl ?_
          refine G.aload_n X 198 dL_fuels_197 rfl rfl ?_
          refine G.bipush X 200 dL_fuels_198 rfl (by decide) ?_
          refine GS.count X hO ml_L_13 203 dL_fuels_200 rfl (cnt_7) (by decide) (by decide) ⟨Nat.zero_le _, Nat.zero_le _⟩ (Nat.le_of_ble_eq_true rfl) (fun M hO => ?_)
          refine GS.fillN X hO ml_L_68 206 dL_fuels_203 rfl (fill_no (by omega)) (by omega) (by decide) ⟨Nat.zero_le _, Nat.zero_le _⟩ (Nat.le_of_ble_eq_true rfl) (fun M hO => ?_)
          refine G.iconst X 207 dL_fuels_206 rfl ?_
          refine G.icmp_ne X 214 210 dL_fuels_207 (by decide) rfl (by omega) (by omega) (fun hc207 => by exact absurd hc207 (by decide)) (fun hc207 => ?_)
          refine G.iconst X 211 dL_fuels_210 rfl ?_
          refine G.goto X 215 dL_fuels_211 (by decide) ?_
          refine G.zret X dL_fuels_215 ⟨Nat.le_refl _, Nat.le_refl _⟩ (Or.inr rfl) ⟨rfl, rfl, rfl, _, rfl, ?_⟩
          exact ⟨rfl, r, h, hO, Or.inl ⟨rfl, rfl⟩⟩
        · refine G.iload X 141 dL_fuels_139 rfl rfl ?_
          refine G.goto X 146 dL_fuels_141 (by decide) ?_
          refine G.istore (ls' := [_, _, _, _, _, _, _, _, _, _, _]) X 148 dL_fuels_146 rfl (by decide) rfl ?_
          refine G.aload_n X 149 dL_fuels_148 rfl rfl ?_
          refine G.iload X 151 dL_fuels_149 rfl rfl ?_
          refine G.iconst X 152 dL_fuels_151 rfl ?_
          refine GS.set X hO ml_L_19 155 dL_fuels_152 rfl (set_5p (i := j110) (j := y) (by omega) (by omega)) (by omega) (by decide) (by decide) ⟨Nat.zero_le _, Nat.zero_le _⟩ (Nat.le_of_ble_eq_true rfl) ?_
          refine G.if_lt X 162 158 dL_fuels_155 (by decide) rfl (by omega) (fun hc155 => by omega) (fun hc155 => ?_)
          refine G.iconst X 159 dL_fuels_158 rfl ?_
          refine G.goto X 163 dL_fuels_159 (by decide) ?_
          refine G.istore (ls' := [_, _, _, _, _, _, _, _, _, _, _]) X 165 dL_fuels_163 rfl (by decide) rfl ?_
          refine G.aload_n X 166 dL_fuels_165 rfl rfl ?_
          refine G.iload X 168 dL_fuels_166 rfl rfl ?_
          refine GS.fillN X hO ml_L_68 171 dL_fuels_168 rfl (fill_a (by omega) (by omega)) (by omega) (by decide) ⟨Nat.zero_le _, Nat.zero_le _⟩ (Nat.le_of_ble_eq_true rfl) (fun M hO => ?_)
          refine G.iload X 173 dL_fuels_171 rfl rfl ?_
          refine G.if_eq X 181 176 dL_fuels_173 (by decide) rfl (by omega) (fun hc173 => by exact absurd hc173 (by decide)) (fun hc173 => ?_)
          refine G.bipush X 178 dL_fuels_176 rfl (by decide) ?_
          refine G.goto X 193 dL_fuels_178 (by decide) ?_
          refine G.icmp_ne X 214 196 dL_fuels_193 (by decide) rfl (by omega) (by omega) (fun hc193 => by exact absurd hc193 (by decide)) (fun hc193 => ?_)
          refine G.aload_n X 197 dL_fuels_196 rfl rfl ?_
          refine G.aload_n X 198 dL_fuels_197 rfl rfl ?_
          refine G.bipush X 200 dL_fuels_198 rfl (by decide) ?_
          refine GS.count X hO ml_L_13 203 dL_fuels_200 rfl (cnt_7) (by decide) (by decide) ⟨Nat.zero_le _, Nat.zero_le _⟩ (Nat.le_of_ble_eq_true rfl) (fun M hO => ?_)
          refine GS.fillN X hO ml_L_68 206 dL_fuels_203 rfl (fill_no (by omega)) (by omega) (by decide) ⟨Nat.zero_le _, Nat.zero_le _⟩ (Nat.le_of_ble_eq_true rfl) (fun M hO => ?_)
          refine G.iconst X 207 dL_fuels_206 rfl ?_
          refine G.icmp_ne X 214 210 dL_fuels_207 (by decide) rfl (by omega) (by omega) (fun hc207 => by exact absurd hc207 (by decide)) (fun hc207 => ?_)
          refine G.iconst X 211 dL_fuels_210 rfl ?_
          refine G.goto X 215 dL_fuels_211 (by decide) ?_
          refine G.zret X dL_fuels_215 ⟨Nat.le_refl _, Nat.le_refl _⟩ (Or.inr rfl) ⟨rfl, rfl, rfl, _, rfl, ?_⟩
          exact ⟨rfl, r, h, hO, Or.inl ⟨rfl, rfl⟩⟩
  · skip
    refine G.iload_n X 15 dL_fuels_14 rfl rfl ?_
    refine G.iconst X 16 dL_fuels_15 rfl ?_
    refine G.icmp_ne X 89 19 dL_fuels_16 (by decide) rfl (by omega) (by omega) (fun hc16 => ?_) (fun hc16 => by exfalso; omega)
    refine G.iload_n X 90 dL_fuels_89 rfl rfl ?_
    refine G.iconst X 91 dL_fuels_90 rfl ?_
    refine G.icmp_ne X 216 94 dL_fuels_91 (by decide) rfl (by omega) (by omega) (fun hc91 => ?_) (fun hc91 => by exfalso; omega)
    exact L216 M hO
