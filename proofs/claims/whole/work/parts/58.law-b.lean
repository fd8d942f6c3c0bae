set_option maxHeartbeats 1000000 in
theorem lc_0 {p : Program} {l : Launch} {e : Env} {s : State} {m : MethodId} {b : Nat} {below : List Frame} {meth : Method} {c : Code} {D : xD} {L : Nat} {xs : Nat → Int32} (X : Cx p s m meth c #[Value.ref b] code 4 RL ret D) (hxs : va_X b L xs s s.heap) (hbl : b < s.heap.size) (hL : L ≤ 2560) {a y sz i : Nat} {kd : xKd} {rf : xRf} {M : xM} {r : xR} {h : List xR} {sn : Option xR} {t : List Int} (hi : i + 5 ≤ L) (hI : LI a y kd rf M r h sn t) (next : ∀ (M' : xM) (r' : xR) (h' : List xR) (sn' : Option xR) (t' : List Int), LI a y kd rf M' r' h' sn' t' → LG p l e s m b below meth c D a y sz kd rf i M' 745) : LG p l e s m b below meth c D a y sz kd rf i M 148 := by
  obtain ⟨hX, hY, hay, hIv, hC, hM⟩ := id hI
  have hV := hIv.1.1
  have hB := hIv.cb
  have hI2 := hIv.act (ok_buy (l := (xs (i + 1)).toInt) hV)
  refine G.aload_n X 149 dL_law_148 rfl rfl ?_
  refine G.aload_n X 150 dL_law_149 rfl rfl ?_
  refine G.iload_n X 151 dL_law_150 rfl rfl ?_
  refine G.iconst X 152 dL_law_151 rfl ?_
  refine G.iadd X 153 dL_law_152 rfl ?_
  refine G.sld (i := i + 1) X hxs hbl (Nat.le_refl _) 154 dL_law_153 rfl (by omega) (by omega) hL ?_
  refine G.vI1 (d := 3) X ml_L_13 yv_X5_buy 157 dL_law_154 rfl (c_X5_buy l D s.heap.size sz kd rf M a r h sn t (xs (i + 1)).toInt hX hV hB hC (ir_x _)) ⟨_, _, hX.1, rfl, rfl⟩ (by decide) ⟨Nat.le_of_ble_eq_true rfl, Nat.le_of_ble_eq_true rfl⟩ (Nat.le_of_ble_eq_true rfl) (fun q1 M1 h1 => ?_)
  obtain ⟨e1, C1, O1⟩ := h1
  have hM1 : MSt M1 y r h sn t := hM.keep (fun x g1 g2 => O1 x (by omega))
  have er : M1 (y + 1) = r := hM1.1
  refine G.aload_n X 158 dL_law_157 rfl rfl ?_
  refine G.aload_n X 159 dL_law_158 rfl rfl ?_
  refine G.iload_n X 160 dL_law_159 rfl rfl ?_
  refine G.iconst X 161 dL_law_160 rfl ?_
  refine G.iadd X 162 dL_law_161 rfl ?_
  refine G.sld (i := i + 1) X hxs hbl (Nat.le_refl _) 163 dL_law_162 rfl (by omega) (by omega) hL ?_
  refine G.vI1 (d := 1) X ml_L_17 yv_X6_buy 166 dL_law_163 rfl (c_X6_buy l D s.heap.size sz kd rf M1 y h sn t (xs (i + 1)).toInt hY (by rw [er]; exact hV) (by rw [er]; exact hM1) (ir_x _)) ⟨_, _, hY.1, rfl, rfl⟩ (by decide) ⟨Nat.le_of_ble_eq_true rfl, Nat.le_of_ble_eq_true rfl⟩ (Nat.le_of_ble_eq_true rfl) (fun q2 M2 h2 => ?_)
  rw [er] at h2
  obtain ⟨e2, K2, O2⟩ := h2
  subst e1
  subst e2
  refine G.same X 745 dL_law_166 (by decide) ?_
  exact next M2 _ _ _ _ ⟨hX, hY, hay, hI2, CSt.keep C1 hI2.1.1.1.bn hI2.cb (fun x g1 g2 => O2 x (by omega)), K2⟩
set_option maxHeartbeats 1000000 in
theorem lc_1 {p : Program} {l : Launch} {e : Env} {s : State} {m : MethodId} {b : Nat} {below : List Frame} {meth : Method} {c : Code} {D : xD} {L : Nat} {xs : Nat → Int32} (X : Cx p s m meth c #[Value.ref b] code 4 RL ret D) (hxs : va_X b L xs s s.heap) (hbl : b < s.heap.size) (hL : L ≤ 2560) {a y sz i : Nat} {kd : xKd} {rf : xRf} {M : xM} {r : xR} {h : List xR} {sn : Option xR} {t : List Int} (hi : i + 5 ≤ L) (hI : LI a y kd rf M r h sn t) (next : ∀ (M' : xM) (r' : xR) (h' : List xR) (sn' : Option xR) (t' : List Int), LI a y kd rf M' r' h' sn' t' → LG p l e s m b below meth c D a y sz kd rf i M' 745) : LG p l e s m b below meth c D a y sz kd rf i M 171 := by
  obtain ⟨hX, hY, hay, hIv, hC, hM⟩ := id hI
  have hV := hIv.1.1
  have hB := hIv.cb
  have hI2 := hIv.act (ok_weather (l := (xs (i + 1)).toInt) hV)
  refine G.aload_n X 172 dL_law_171 rfl rfl ?_
  refine G.aload_n X 173 dL_law_172 rfl rfl ?_
  refine G.iload_n X 174 dL_law_173 rfl rfl ?_
  refine G.iconst X 175 dL_law_174 rfl ?_
  refine G.iadd X 176 dL_law_175 rfl ?_
  refine G.sld (i := i + 1) X hxs hbl (Nat.le_refl _) 177 dL_law_176 rfl (by omega) (by omega) hL ?_
  refine G.vI1 (d := 3) X ml_L_18 yv_X5_weather 180 dL_law_177 rfl (c_X5_weather l D s.heap.size sz kd rf M a r h sn t (xs (i + 1)).toInt hX hV hB hC (ir_x _)) ⟨_, _, hX.1, rfl, rfl⟩ (by decide) ⟨Nat.le_of_ble_eq_true rfl, Nat.le_of_ble_eq_true rfl⟩ (Nat.le_of_ble_eq_true rfl) (fun q1 M1 h1 => ?_)
  obtain ⟨e1, C1, O1⟩ := h1
  have hM1 : MSt M1 y r h sn t := hM.keep (fun x g1 g2 => O1 x (by omega))
  have er : M1 (y + 1) = r := hM1.1
  refine G.aload_n X 181 dL_law_180 rfl rfl ?_
  refine G.aload_n X 182 dL_law_181 rfl rfl ?_
  refine G.iload_n X 183 dL_law_182 rfl rfl ?_
  refine G.iconst X 184 dL_law_183 rfl ?_
  refine G.iadd X 185 dL_law_184 rfl ?_
  refine G.sld (i := i + 1) X hxs hbl (Nat.le_refl _) 186 dL_law_185 rfl (by omega) (by omega) hL ?_
  refine G.vI1 (d := 1) X ml_L_21 yv_X6_weather 189 dL_law_186 rfl (c_X6_weather l D s.heap.size sz kd rf M1 y h sn t (xs (i + 1)).toInt hY (by rw [er]; exact hV) (by rw [er]; exact hM1) (ir_x _)) ⟨_, _, hY.1, rfl, rfl⟩ (by decide) ⟨Nat.le_of_ble_eq_true rfl, Nat.le_of_ble_eq_true rfl⟩ (Nat.le_of_ble_eq_true rfl) (fun q2 M2 h2 => ?_)
  rw [er] at h2
  obtain ⟨e2, K2, O2⟩ := h2
  subst e1
  subst e2
  refine G.same X 745 dL_law_189 (by decide) ?_
  exact next M2 _ _ _ _ ⟨hX, hY, hay, hI2, CSt.keep C1 hI2.1.1.1.bn hI2.cb (fun x g1 g2 => O2 x (by omega)), K2⟩
set_option maxHeartbeats 1000000 in
theorem lc_2 {p : Program} {l : Launch} {e : Env} {s : State} {m : MethodId} {b : Nat} {below : List Frame} {meth : Method} {c : Code} {D : xD} {L : Nat} {xs : Nat → Int32} (X : Cx p s m meth c #[Value.ref b] code 4 RL ret D) (hxs : va_X b L xs s s.heap) (hbl : b < s.heap.size) (hL : L ≤ 2560) {a y sz i : Nat} {kd : xKd} {rf : xRf} {M : xM} {r : xR} {h : List xR} {sn : Option xR} {t : List Int} (hi : i + 5 ≤ L) (hI : LI a y kd rf M r h sn t) (next : ∀ (M' : xM) (r' : xR) (h' : List xR) (sn' : Option xR) (t' : List Int), LI a y kd rf M' r' h' sn' t' → LG p l e s m b below meth c D a y sz kd rf i M' 745) : LG p l e s m b below meth c D a y sz kd rf i M 194 := by
  obtain ⟨hX, hY, hay, hIv, hC, hM⟩ := id hI
  have hV := hIv.1.1
  have hB := hIv.cb
  have hI2 := hIv.act (ok_price (l := (xs (i + 1)).toInt) hV)
  refine G.aload_n X 195 dL_law_194 rfl rfl ?_
  refine G.aload_n X 196 dL_law_195 rfl rfl ?_
  refine G.iload_n X 197 dL_law_196 rfl rfl ?_
  refine G.iconst X 198 dL_law_197 rfl ?_
  refine G.iadd X 199 dL_law_198 rfl ?_
  refine G.sld (i := i + 1) X hxs hbl (Nat.le_refl _) 200 dL_law_199 rfl (by omega) (by omega) hL ?_
  refine G.vI1 (d := 3) X ml_L_22 yv_X5_setPrice 203 dL_law_200 rfl (c_X5_setPrice l D s.heap.size sz kd rf M a r h sn t (xs (i + 1)).toInt hX hV hB hC (ir_x _)) ⟨_, _, hX.1, rfl, rfl⟩ (by decide) ⟨Nat.le_of_ble_eq_true rfl, Nat.le_of_ble_eq_true rfl⟩ (Nat.le_of_ble_eq_true rfl) (fun q1 M1 h1 => ?_)
  obtain ⟨e1, C1, O1⟩ := h1
  have hM1 : MSt M1 y r h sn t := hM.keep (fun x g1 g2 => O1 x (by omega))
  have er : M1 (y + 1) = r := hM1.1
  refine G.aload_n X 204 dL_law_203 rfl rfl ?_
  refine G.aload_n X 205 dL_law_204 rfl rfl ?_
  refine G.iload_n X 206 dL_law_205 rfl rfl ?_
  refine G.iconst X 207 dL_law_206 rfl ?_
  refine G.iadd X 208 dL_law_207 rfl ?_
  refine G.sld (i := i + 1) X hxs hbl (Nat.le_refl _) 209 dL_law_208 rfl (by omega) (by omega) hL ?_
  refine G.vI1 (d := 1) X ml_L_25 yv_X6_setPrice 212 dL_law_209 rfl (c_X6_setPrice l D s.heap.size sz kd rf M1 y h sn t (xs (i + 1)).toInt hY (by rw [er]; exact hV) (by rw [er]; exact hM1) (ir_x _)) ⟨_, _, hY.1, rfl, rfl⟩ (by decide) ⟨Nat.le_of_ble_eq_true rfl, Nat.le_of_ble_eq_true rfl⟩ (Nat.le_of_ble_eq_true rfl) (fun q2 M2 h2 => ?_)
  rw [er] at h2
  obtain ⟨e2, K2, O2⟩ := h2
  subst e1
  subst e2
  refine G.same X 745 dL_law_212 (by decide) ?_
  exact next M2 _ _ _ _ ⟨hX, hY, hay, hI2, CSt.keep C1 hI2.1.1.1.bn hI2.cb (fun x g1 g2 => O2 x (by omega)), K2⟩
set_option maxHeartbeats 1000000 in
theorem lc_3 {p : Program} {l : Launch} {e : Env} {s : State} {m : MethodId} {b : Nat} {below : List Frame} {meth : Method} {c : Code} {D : xD} {L : Nat} {xs : Nat → Int32} (X : Cx p s m meth c #[Value.ref b] code 4 RL ret D) (hxs : va_X b L xs s s.heap) (hbl : b < s.heap.size) (hL : L ≤ 2560) {a y sz i : Nat} {kd : xKd} {rf : xRf} {M : xM} {r : xR} {h : List xR} {sn : Option xR} {t : List Int} (hi : i + 5 ≤ L) (hI : LI a y kd rf M r h sn t) (next : ∀ (M' : xM) (r' : xR) (h' : List xR) (sn' : Option xR) (t' : List Int), LI a y kd rf M' r' h' sn' t' → LG p l e s m b below meth c D a y sz kd rf i M' 745) : LG p l e s m b below meth c D a y sz kd rf i M 217 := by
  obtain ⟨hX, hY, hay, hIv, hC, hM⟩ := id hI
  have hV := hIv.1.1
  have hB := hIv.cb
  have hI2 := hIv.act (ok_addSet (x0 := (xs (i + 1)).toInt) (x1 := (xs (i + 2)).toInt) (x2 := (xs (i + 3)).toInt) (x3 := (xs (i + 4)).toInt) hV)
  refine G.aload_n X 218 dL_law_217 rfl rfl ?_
  refine G.aload_n X 219 dL_law_218 rfl rfl ?_
  refine G.iload_n X 220 dL_law_219 rfl rfl ?_
  refine G.iconst X 221 dL_law_220 rfl ?_
  refine G.iadd X 222 dL_law_221 rfl ?_
  refine G.sld (i := i + 1) X hxs hbl (Nat.le_refl _) 223 dL_law_222 rfl (by omega) (by omega) hL ?_
  refine G.aload_n X 224 dL_law_223 rfl rfl ?_
  refine G.iload_n X 225 dL_law_224 rfl rfl ?_
  refine G.iconst X 226 dL_law_225 rfl ?_
  refine G.iadd X 227 dL_law_226 rfl ?_
  refine G.sld (i := i + 2) X hxs hbl (Nat.le_refl _) 228 dL_law_227 rfl (by omega) (by omega) hL ?_
  refine G.aload_n X 229 dL_law_228 rfl rfl ?_
  refine G.iload_n X 230 dL_law_229 rfl rfl ?_
  refine G.iconst X 231 dL_law_230 rfl ?_
  refine G.iadd X 232 dL_law_231 rfl ?_
  refine G.sld (i := i + 3) X hxs hbl (Nat.le_refl _) 233 dL_law_232 rfl (by omega) (by omega) hL ?_
  refine G.aload_n X 234 dL_law_233 rfl rfl ?_
  refine G.iload_n X 235 dL_law_234 rfl rfl ?_
  refine G.iconst X 236 dL_law_235 rfl ?_
  refine G.iadd X 237 dL_law_236 rfl ?_
  refine G.sld (i := i + 4) X hxs hbl (Nat.le_refl _) 238 dL_law_237 rfl (by omega) (by omega) hL ?_
  refine G.vI4 (d := 3) X ml_L_26 yv_X5_addSet 241 dL_law_238 rfl (c_X5_addSet l D s.heap.size sz kd rf M a r h sn t (xs (i + 1)).toInt (xs (i + 2)).toInt (xs (i + 3)).toInt (xs (i + 4)).toInt hX hV hB hC (ir_x _) (ir_x _) (ir_x _) (ir_x _)) ⟨_, _, hX.1, rfl, rfl⟩ (by decide) ⟨Nat.le_of_ble_eq_true rfl, Nat.le_of_ble_eq_true rfl⟩ (Nat.le_of_ble_eq_true rfl) (fun q1 M1 h1 => ?_)
  obtain ⟨e1, C1, O1⟩ := h1
  have hM1 : MSt M1 y r h sn t := hM.keep (fun x g1 g2 => O1 x (by omega))
  have er : M1 (y + 1) = r := hM1.1
  refine G.aload_n X 242 dL_law_241 rfl rfl ?_
  refine G.aload_n X 243 dL_law_242 rfl rfl ?_
  refine G.iload_n X 244 dL_law_243 rfl rfl ?_
  refine G.iconst X 245 dL_law_244 rfl ?_
  refine G.iadd X 246 dL_law_245 rfl ?_
  refine G.sld (i := i + 1) X hxs hbl (Nat.le_refl _) 247 dL_law_246 rfl (by omega) (by omega) hL ?_
  refine G.aload_n X 248 dL_law_247 rfl rfl ?_
  refine G.iload_n X 249 dL_law_248 rfl rfl ?_
  refine G.iconst X 250 dL_law_249 rfl ?_
  refine G.iadd X 251 dL_law_250 rfl ?_
  refine G.sld (i := i + 2) X hxs hbl (Nat.le_refl _) 252 dL_law_251 rfl (by omega) (by omega) hL ?_
  refine G.aload_n X 253 dL_law_252 rfl rfl ?_
  refine G.iload_n X 254 dL_law_253 rfl rfl ?_
  refine G.iconst X 255 dL_law_254 rfl ?_
  refine G.iadd X 256 dL_law_255 rfl ?_
  refine G.sld (i := i + 3) X hxs hbl (Nat.le_refl _) 257 dL_law_256 rfl (by omega) (by omega) hL ?_
  refine G.aload_n X 258 dL_law_257 rfl rfl ?_
  refine G.iload_n X 259 dL_law_258 rfl rfl ?_
  refine G.iconst X 260 dL_law_259 rfl ?_
  refine G.iadd X 261 dL_law_260 rfl ?_
  refine G.sld (i := i + 4) X hxs hbl (Nat.le_refl _) 262 dL_law_261 rfl (by omega) (by omega) hL ?_
  refine G.vI4 (d := 1) X ml_L_30 yv_X6_addSet 265 dL_law_262 rfl (c_X6_addSet l D s.heap.size sz kd rf M1 y h sn t (xs (i + 1)).toInt (xs (i + 2)).toInt (xs (i + 3)).toInt (xs (i + 4)).toInt hY (by rw [er]; exact hV) (by rw [er]; exact hM1) (ir_x _) (ir_x _) (ir_x _) (ir_x _)) ⟨_, _, hY.1, rfl, rfl⟩ (by decide) ⟨Nat.le_of_ble_eq_true rfl, Nat.le_of_ble_eq_true rfl⟩ (Nat.le_of_ble_eq_true rfl) (fun q2 M2 h2 => ?_)
  rw [er] at h2
  obtain ⟨e2, K2, O2⟩ := h2
  subst e1
  subst e2
  refine G.same X 745 dL_law_265 (by decide) ?_
  exact next M2 _ _ _ _ ⟨hX, hY, hay, hI2, CSt.keep C1 hI2.1.1.1.bn hI2.cb (fun x g1 g2 => O2 x (by omega)), K2⟩
set_option maxHeartbeats 1000000 in
theorem lc_4 {p : Program} {l : Launch} {e : Env} {s : State} {m : MethodId} {b : Nat} {below : List Frame} {meth : Method} {c : Code} {D : xD} {L : Nat} {xs : Nat → Int32} (X : Cx p s m meth c #[Value.ref b] code 4 RL ret D) (hxs : va_X b L xs s s.heap) (hbl : b < s.heap.size) (hL : L ≤ 2560) {a y sz i : Nat} {kd : xKd} {rf : xRf} {M : xM} {r : xR} {h : List xR} {sn : Option xR} {t : List Int} (hi : i + 5 ≤ L) (hI : LI a y kd rf M r h sn t) (next : ∀ (M' : xM) (r' : xR) (h' : List xR) (sn' : Option xR) (t' : List Int), LI a y kd rf M' r' h' sn' t' → LG p l e s m b below meth c D a y sz kd rf i M' 745) : LG p l e s m b below meth c D a y sz kd rf i M 270 := by
  obtain ⟨hX, hY, hay, hIv, hC, hM⟩ := id hI
  have hV := hIv.1.1
  have hB := hIv.cb
  have hI2 := hIv.act (ok_fill (m := (xs (i + 1)).toInt) hV)
  refine G.aload_n X 271 dL_law_270 rfl rfl ?_
  refine G.aload_n X 272 dL_law_271 rfl rfl ?_
  refine G.iload_n X 273 dL_law_272 rfl rfl ?_
  refine G.iconst X 274 dL_law_273 rfl ?_
  refine G.iadd X 275 dL_law_274 rfl ?_
  refine G.sld (i := i + 1) X hxs hbl (Nat.le_refl _) 276 dL_law_275 rfl (by omega) (by omega) hL ?_
  refine G.vI1 (d := 3) X ml_L_31 yv_X5_fill 279 dL_law_276 rfl (c_X5_fill l D s.heap.size sz kd rf M a r h sn t (xs (i + 1)).toInt hX hV hB hC (ir_x _)) ⟨_, _, hX.1, rfl, rfl⟩ (by decide) ⟨Nat.le_of_ble_eq_true rfl, Nat.le_of_ble_eq_true rfl⟩ (Nat.le_of_ble_eq_true rfl) (fun q1 M1 h1 => ?_)
  obtain ⟨e1, C1, O1⟩ := h1
  have hM1 : MSt M1 y r h sn t := hM.keep (fun x g1 g2 => O1 x (by omega))
  have er : M1 (y + 1) = r := hM1.1
  refine G.aload_n X 280 dL_law_279 rfl rfl ?_
  refine G.aload_n X 281 dL_law_280 rfl rfl ?_
  refine G.iload_n X 282 dL_law_281 rfl rfl ?_
  refine G.iconst X 283 dL_law_282 rfl ?_
  refine G.iadd X 284 dL_law_283 rfl ?_
  refine G.sld (i := i + 1) X hxs hbl (Nat.le_refl _) 285 dL_law_284 rfl (by omega) (by omega) hL ?_
  refine G.vI1 (d := 2) X ml_L_34 yv_X6_fill 288 dL_law_285 rfl (c_X6_fill l D s.heap.size sz kd rf M1 y h sn t (xs (i + 1)).toInt hY (by rw [er]; exact hV) (by rw [er]; exact hM1) (ir_x _)) ⟨_, _, hY.1, rfl, rfl⟩ (by decide) ⟨Nat.le_of_ble_eq_true rfl, Nat.le_of_ble_eq_true rfl⟩ (Nat.le_of_ble_eq_true rfl) (fun q2 M2 h2 => ?_)
  rw [er] at h2
  obtain ⟨e2, K2, O2⟩ := h2
  subst e1
  subst e2
  refine G.same X 745 dL_law_288 (by decide) ?_
  exact next M2 _ _ _ _ ⟨hX, hY, hay, hI2, CSt.keep C1 hI2.1.1.1.bn hI2.cb (fun x g1 g2 => O2 x (by omega)), K2⟩
set_option maxHeartbeats 1000000 in
theorem lc_5 {p : Program} {l : Launch} {e : Env} {s : State} {m : MethodId} {b : Nat} {below : List Frame} {meth : Method} {c : Code} {D : xD} {L : Nat} {xs : Nat → Int32} (X : Cx p s m meth c #[Value.ref b] code 4 RL ret D) (hxs : va_X b L xs s s.heap) (hbl : b < s.heap.size) (hL : L ≤ 2560) {a y sz i : Nat} {kd : xKd} {rf : xRf} {M : xM} {r : xR} {h : List xR} {sn : Option xR} {t : List Int} (hi : i + 5 ≤ L) (hI : LI a y kd rf M r h sn t) (next : ∀ (M' : xM) (r' : xR) (h' : List xR) (sn' : Option xR) (t' : List Int), LI a y kd rf M' r' h' sn' t' → LG p l e s m b below meth c D a y sz kd rf i M' 745) : LG p l e s m b below meth c D a y sz kd rf i M 293 := by
  obtain ⟨hX, hY, hay, hIv, hC, hM⟩ := id hI
  have hV := hIv.1.1
  have hB := hIv.cb
  have hI2 := hIv.act (ok_addSite (x0 := (xs (i + 1)).toInt) (x1 := (xs (i + 2)).toInt) (x2 := (xs (i + 3)).toInt) (x3 := (xs (i + 4)).toInt) hV)
  refine G.aload_n X 294 dL_law_293 rfl rfl ?_
  refine G.aload_n X 295 dL_law_294 rfl rfl ?_
  refine G.iload_n X 296 dL_law_295 rfl rfl ?_
  refine G.iconst X 297 dL_law_296 rfl ?_
  refine G.iadd X 298 dL_law_297 rfl ?_
  refine G.sld (i := i + 1) X hxs hbl (Nat.le_refl _) 299 dL_law_298 rfl (by omega) (by omega) hL ?_
  refine G.aload_n X 300 dL_law_299 rfl rfl ?_
  refine G.iload_n X 301 dL_law_300 rfl rfl ?_
  refine G.iconst X 302 dL_law_301 rfl ?_
  refine G.iadd X 303 dL_law_302 rfl ?_
  refine G.sld (i := i + 2) X hxs hbl (Nat.le_refl _) 304 dL_law_303 rfl (by omega) (by omega) hL ?_
  refine G.aload_n X 305 dL_law_304 rfl rfl ?_
  refine G.iload_n X 306 dL_law_305 rfl rfl ?_
  refine G.iconst X 307 dL_law_306 rfl ?_
  refine G.iadd X 308 dL_law_307 rfl ?_
  refine G.sld (i := i + 3) X hxs hbl (Nat.le_refl _) 309 dL_law_308 rfl (by omega) (by omega) hL ?_
  refine G.aload_n X 310 dL_law_309 rfl rfl ?_
  refine G.iload_n X 311 dL_law_310 rfl rfl ?_
  refine G.iconst X 312 dL_law_311 rfl ?_
  refine G.iadd X 313 dL_law_312 rfl ?_
  refine G.sld (i := i + 4) X hxs hbl (Nat.le_refl _) 314 dL_law_313 rfl (by omega) (by omega) hL ?_
  refine G.vI4 (d := 3) X ml_L_35 yv_X5_addSite 317 dL_law_314 rfl (c_X5_addSite l D s.heap.size sz kd rf M a r h sn t (xs (i + 1)).toInt (xs (i + 2)).toInt (xs (i + 3)).toInt (xs (i + 4)).toInt hX hV hB hC (ir_x _) (ir_x _) (ir_x _) (ir_x _)) ⟨_, _, hX.1, rfl, rfl⟩ (by decide) ⟨Nat.le_of_ble_eq_true rfl, Nat.le_of_ble_eq_true rfl⟩ (Nat.le_of_ble_eq_true rfl) (fun q1 M1 h1 => ?_)
  obtain ⟨e1, C1, O1⟩ := h1
  have hM1 : MSt M1 y r h sn t := hM.keep (fun x g1 g2 => O1 x (by omega))
  have er : M1 (y + 1) = r := hM1.1
  refine G.aload_n X 318 dL_law_317 rfl rfl ?_
  refine G.aload_n X 319 dL_law_318 rfl rfl ?_
  refine G.iload_n X 320 dL_law_319 rfl rfl ?_
  refine G.iconst X 321 dL_law_320 rfl ?_
  refine G.iadd X 322 dL_law_321 rfl ?_
  refine G.sld (i := i + 1) X hxs hbl (Nat.le_refl _) 323 dL_law_322 rfl (by omega) (by omega) hL ?_
  refine G.aload_n X 324 dL_law_323 rfl rfl ?_
  refine G.iload_n X 325 dL_law_324 rfl rfl ?_
  refine G.iconst X 326 dL_law_325 rfl ?_
  refine G.iadd X 327 dL_law_326 rfl ?_
  refine G.sld (i := i + 2) X hxs hbl (Nat.le_refl _) 328 dL_law_327 rfl (by omega) (by omega) hL ?_
  refine G.aload_n X 329 dL_law_328 rfl rfl ?_
  refine G.iload_n X 330 dL_law_329 rfl rfl ?_
  refine G.iconst X 331 dL_law_330 rfl ?_
  refine G.iadd X 332 dL_law_331 rfl ?_
  refine G.sld (i := i + 3) X hxs hbl (Nat.le_refl _) 333 dL_law_332 rfl (by omega) (by omega) hL ?_
  refine G.aload_n X 334 dL_law_333 rfl rfl ?_
  refine G.iload_n X 335 dL_law_334 rfl rfl ?_
  refine G.iconst X 336 dL_law_335 rfl ?_
  refine G.iadd X 337 dL_law_336 rfl ?_
  refine G.sld (i := i + 4) X hxs hbl (Nat.le_refl _) 338 dL_law_337 rfl (by omega) (by omega) hL ?_
  refine G.vI4 (d := 2) X ml_L_38 yv_X6_addSite 341 dL_law_338 rfl (c_X6_addSite l D s.heap.size sz kd rf M1 y h sn t (xs (i + 1)).toInt (xs (i + 2)).toInt (xs (i + 3)).toInt (xs (i + 4)).toInt hY (by rw [er]; exact hV) (by rw [er]; exact hM1) (ir_x _) (ir_x _) (ir_x _) (ir_x _)) ⟨_, _, hY.1, rfl, rfl⟩ (by decide) ⟨Nat.le_of_ble_eq_true rfl, Nat.le_of_ble_eq_true rfl⟩ (Nat.le_of_ble_eq_true rfl) (fun q2 M2 h2 => ?_)
  rw [er] at h2
  obtain ⟨e2, K2, O2⟩ := h2
  subst e1
  subst e2
  refine G.same X 745 dL_law_341 (by decide) ?_
  exact next M2 _ _ _ _ ⟨hX, hY, hay, hI2, CSt.keep C1 hI2.1.1.1.bn hI2.cb (fun x g1 g2 => O2 x (by omega)), K2⟩
set_option maxHeartbeats 1000000 in
theorem lc_6 {p : Program} {l : Launch} {e : Env} {s : State} {m : MethodId} {b : Nat} {below : List Frame} {meth : Method} {c : Code} {D : xD} {L : Nat} {xs : Nat → Int32} (X : Cx p s m meth c #[Value.ref b] code 4 RL ret D) (hxs : va_X b L xs s s.heap) (hbl : b < s.heap.size) (hL : L ≤ 2560) {a y sz i : Nat} {kd : xKd} {rf : xRf} {M : xM} {r : xR} {h : List xR} {sn : Option xR} {t : List Int} (hi : i + 5 ≤ L) (hI : LI a y kd rf M r h sn t) (next : ∀ (M' : xM) (r' : xR) (h' : List xR) (sn' : Option xR) (t' : List Int), LI a y kd rf M' r' h' sn' t' → LG p l e s m b below meth c D a y sz kd rf i M' 745) : LG p l e s m b below meth c D a y sz kd rf i M 346 := by
  obtain ⟨hX, hY, hay, hIv, hC, hM⟩ := id hI
  have hV := hIv.1.1
  have hB := hIv.cb
  have hI2 := hIv.act (ok_bring (m := (xs (i + 1)).toInt) (s := (xs (i + 2)).toInt) hV)
  refine G.aload_n X 347 dL_law_346 rfl rfl ?_
  refine G.aload_n X 348 dL_law_347 rfl rfl ?_
  refine G.iload_n X 349 dL_law_348 rfl rfl ?_
  refine G.iconst X 350 dL_law_349 rfl ?_
  refine G.iadd X 351 dL_law_350 rfl ?_
  refine G.sld (i := i + 1) X hxs hbl (Nat.le_refl _) 352 dL_law_351 rfl (by omega) (by omega) hL ?_
  refine G.aload_n X 353 dL_law_352 rfl rfl ?_
  refine G.iload_n X 354 dL_law_353 rfl rfl ?_
  refine G.iconst X 355 dL_law_354 rfl ?_
  refine G.iadd X 356 dL_law_355 rfl ?_
  refine G.sld (i := i + 2) X hxs hbl (Nat.le_refl _) 357 dL_law_356 rfl (by omega) (by omega) hL ?_
  refine G.vI2 (d := 3) X ml_L_39 yv_X5_bring 360 dL_law_357 rfl (c_X5_bring l D s.heap.size sz kd rf M a r h sn t (xs (i + 1)).toInt (xs (i + 2)).toInt hX hV hB hC (ir_x _) (ir_x _)) ⟨_, _, hX.1, rfl, rfl⟩ (by decide) ⟨Nat.le_of_ble_eq_true rfl, Nat.le_of_ble_eq_true rfl⟩ (Nat.le_of_ble_eq_true rfl) (fun q1 M1 h1 => ?_)
  obtain ⟨e1, C1, O1⟩ := h1
  have hM1 : MSt M1 y r h sn t := hM.keep (fun x g1 g2 => O1 x (by omega))
  have er : M1 (y + 1) = r := hM1.1
  refine G.aload_n X 361 dL_law_360 rfl rfl ?_
  refine G.aload_n X 362 dL_law_361 rfl rfl ?_
  refine G.iload_n X 363 dL_law_362 rfl rfl ?_
  refine G.iconst X 364 dL_law_363 rfl ?_
  refine G.iadd X 365 dL_law_364 rfl ?_
  refine G.sld (i := i + 1) X hxs hbl (Nat.le_refl _) 366 dL_law_365 rfl (by omega) (by omega) hL ?_
  refine G.aload_n X 367 dL_law_366 rfl rfl ?_
  refine G.iload_n X 368 dL_law_367 rfl rfl ?_
  refine G.iconst X 369 dL_law_368 rfl ?_
  refine G.iadd X 370 dL_law_369 rfl ?_
  refine G.sld (i := i + 2) X hxs hbl (Nat.le_refl _) 371 dL_law_370 rfl (by omega) (by omega) hL ?_
  refine G.vI2 (d := 2) X ml_L_43 yv_X6_bring 374 dL_law_371 rfl (c_X6_bring l D s.heap.size sz kd rf M1 y h sn t (xs (i + 1)).toInt (xs (i + 2)).toInt hY (by rw [er]; exact hV) (by rw [er]; exact hM1) (ir_x _) (ir_x _)) ⟨_, _, hY.1, rfl, rfl⟩ (by decide) ⟨Nat.le_of_ble_eq_true rfl, Nat.le_of_ble_eq_true rfl⟩ (Nat.le_of_ble_eq_true rfl) (fun q2 M2 h2 => ?_)
  rw [er] at h2
  obtain ⟨e2, K2, O2⟩ := h2
  subst e1
  subst e2
  refine G.same X 745 dL_law_374 (by decide) ?_
  exact next M2 _ _ _ _ ⟨hX, hY, hay, hI2, CSt.keep C1 hI2.1.1.1.bn hI2.cb (fun x g1 g2 => O2 x (by omega)), K2⟩
set_option maxHeartbeats 1000000 in
theorem lc_7 {p : Program} {l : Launch} {e : Env} {s : State} {m : MethodId} {b : Nat} {below : List Frame} {meth : Method} {c : Code} {D : xD} {L : Nat} {xs : Nat → Int32} (X : Cx p s m meth c #[Value.ref b] code 4 RL ret D) (hxs : va_X b L xs s s.heap) (hbl : b < s.heap.size) (hL : L ≤ 2560) {a y sz i : Nat} {kd : xKd} {rf : xRf} {M : xM} {r : xR} {h : List xR} {sn : Option xR} {t : List Int} (hi : i + 5 ≤ L) (hI : LI a y kd rf M r h sn t) (next : ∀ (M' : xM) (r' : xR) (h' : List xR) (sn' : Option xR) (t' : List Int), LI a y kd rf M' r' h' sn' t' → LG p l e s m b below meth c D a y sz kd rf i M' 745) : LG p l e s m b below meth c D a y sz kd rf i M 379 := by
  obtain ⟨hX, hY, hay, hIv, hC, hM⟩ := id hI
  have hV := hIv.1.1
  have hB := hIv.cb
  have hI2 := hIv.act (ok_take (s := (xs (i + 1)).toInt) hV)
  refine G.aload_n X 380 dL_law_379 rfl rfl ?_
  refine G.aload_n X 381 dL_law_380 rfl rfl ?_
  refine G.iload_n X 382 dL_law_381 rfl rfl ?_
  refine G.iconst X 383 dL_law_382 rfl ?_
  refine G.iadd X 384 dL_law_383 rfl ?_
  refine G.sld (i := i + 1) X hxs hbl (Nat.le_refl _) 385 dL_law_384 rfl (by omega) (by omega) hL ?_
  refine G.vI1 (d := 3) X ml_L_44 yv_X5_takeBack 388 dL_law_385 rfl (c_X5_takeBack l D s.heap.size sz kd rf M a r h sn t (xs (i + 1)).toInt hX hV hB hC (ir_x _)) ⟨_, _, hX.1, rfl, rfl⟩ (by decide) ⟨Nat.le_of_ble_eq_true rfl, Nat.le_of_ble_eq_true rfl⟩ (Nat.le_of_ble_eq_true rfl) (fun q1 M1 h1 => ?_)
  obtain ⟨e1, C1, O1⟩ := h1
  have hM1 : MSt M1 y r h sn t := hM.keep (fun x g1 g2 => O1 x (by omega))
  have er : M1 (y + 1) = r := hM1.1
  refine G.aload_n X 389 dL_law_388 rfl rfl ?_
  refine G.aload_n X 390 dL_law_389 rfl rfl ?_
  refine G.iload_n X 391 dL_law_390 rfl rfl ?_
  refine G.iconst X 392 dL_law_391 rfl ?_
  refine G.iadd X 393 dL_law_392 rfl ?_
  refine G.sld (i := i + 1) X hxs hbl (Nat.le_refl _) 394 dL_law_393 rfl (by omega) (by omega) hL ?_
  refine G.vI1 (d := 3) X ml_L_47 yv_X6_takeBack 397 dL_law_394 rfl (c_X6_takeBack l D s.heap.size sz kd rf M1 y h sn t (xs (i + 1)).toInt hY (by rw [er]; exact hV) (by rw [er]; exact hM1) (ir_x _)) ⟨_, _, hY.1, rfl, rfl⟩ (by decide) ⟨Nat.le_of_ble_eq_true rfl, Nat.le_of_ble_eq_true rfl⟩ (Nat.le_of_ble_eq_true rfl) (fun q2 M2 h2 => ?_)
  rw [er] at h2
  obtain ⟨e2, K2, O2⟩ := h2
  subst e1
  subst e2
  refine G.same X 745 dL_law_397 (by decide) ?_
  exact next M2 _ _ _ _ ⟨hX, hY, hay, hI2, CSt.keep C1 hI2.1.1.1.bn hI2.cb (fun x g1 g2 => O2 x (by omega)), K2⟩
set_option maxHeartbeats 1000000 in
theorem lc_8 {p : Program} {l : Launch} {e : Env} {s : State} {m : MethodId} {b : Nat} {below : List Frame} {meth : Method} {c : Code} {D : xD} {L : Nat} {xs : Nat → Int32} (X : Cx p s m meth c #[Value.ref b] code 4 RL ret D) (hxs : va_X b L xs s s.heap) (hbl : b < s.heap.size) (hL : L ≤ 2560) {a y sz i : Nat} {kd : xKd} {rf : xRf} {M : xM} {r : xR} {h : List xR} {sn : Option xR} {t : List Int} (hi : i + 5 ≤ L) (hI : LI a y kd rf M r h sn t) (next : ∀ (M' : xM) (r' : xR) (h' : List xR) (sn' : Option xR) (t' : List Int), LI a y kd rf M' r' h' sn' t' → LG p l e s m b below meth c D a y sz kd rf i M' 745) : LG p l e s m b below meth c D a y sz kd rf i M 402 := by
  obtain ⟨hX, hY, hay, hIv, hC, hM⟩ := id hI
  have hV := hIv.1.1
  have hB := hIv.cb
  have hI2 := hIv.act (ok_give hV)
  refine G.aload_n X 403 dL_law_402 rfl rfl ?_
  refine G.vI0 (d := 6) X ml_L_48 yv_X5_giveOut 406 dL_law_403 rfl (c_X5_giveOut l D s.heap.size sz kd rf M a r h sn t  hX hV hB hC ) ⟨_, _, hX.1, rfl, rfl⟩ (by decide) ⟨Nat.le_of_ble_eq_true rfl, Nat.le_of_ble_eq_true rfl⟩ (Nat.le_of_ble_eq_true rfl) (fun q1 M1 h1 => ?_)
  obtain ⟨e1, C1, O1⟩ := h1
  have hM1 : MSt M1 y r h sn t := hM.keep (fun x g1 g2 => O1 x (by omega))
  have er : M1 (y + 1) = r := hM1.1
  refine G.aload_n X 407 dL_law_406 rfl rfl ?_
  refine G.vI0 (d := 3) X ml_L_52 yv_X6_giveOut 410 dL_law_407 rfl (c_X6_giveOut l D s.heap.size sz kd rf M1 y h sn t  hY (by rw [er]; exact hV) (by rw [er]; exact hM1) ) ⟨_, _, hY.1, rfl, rfl⟩ (by decide) ⟨Nat.le_of_ble_eq_true rfl, Nat.le_of_ble_eq_true rfl⟩ (Nat.le_of_ble_eq_true rfl) (fun q2 M2 h2 => ?_)
  rw [er] at h2
  obtain ⟨e2, K2, O2⟩ := h2
  subst e1
  subst e2
  refine G.same X 745 dL_law_410 (by decide) ?_
  exact next M2 _ _ _ _ ⟨hX, hY, hay, hI2, CSt.keep C1 hI2.1.1.1.bn hI2.cb (fun x g1 g2 => O2 x (by omega)), K2⟩
set_option maxHeartbeats 1000000 in
theorem lc_9 {p : Program} {l : Launch} {e : Env} {s : State} {m : MethodId} {b : Nat} {below : List Frame} {meth : Method} {c : Code} {D : xD} {L : Nat} {xs : Nat → Int32} (X : Cx p s m meth c #[Value.ref b] code 4 RL ret D) (hxs : va_X b L xs s s.heap) (hbl : b < s.heap.size) (hL : L ≤ 2560) {a y sz i : Nat} {kd : xKd} {rf : xRf} {M : xM} {r : xR} {h : List xR} {sn : Option xR} {t : List Int} (hi : i + 5 ≤ L) (hI : LI a y kd rf M r h sn t) (next : ∀ (M' : xM) (r' : xR) (h' : List xR) (sn' : Option xR) (t' : List Int), LI a y kd rf M' r' h' sn' t' → LG p l e s m b below meth c D a y sz kd rf i M' 745) : LG p l e s m b below meth c D a y sz kd rf i M 415 := by
  obtain ⟨hX, hY, hay, hIv, hC, hM⟩ := id hI
  have hV := hIv.1.1
  have hB := hIv.cb
  have hI2 := hIv.act (ok_swap hV)
  refine G.aload_n X 416 dL_law_415 rfl rfl ?_
  refine G.vI0 (d := 6) X ml_L_53 yv_X5_swap 419 dL_law_416 rfl (c_X5_swap l D s.heap.size sz kd rf M a r h sn t  hX hV hB hC ) ⟨_, _, hX.1, rfl, rfl⟩ (by decide) ⟨Nat.le_of_ble_eq_true rfl, Nat.le_of_ble_eq_true rfl⟩ (Nat.le_of_ble_eq_true rfl) (fun q1 M1 h1 => ?_)
  obtain ⟨e1, C1, O1⟩ := h1
  have hM1 : MSt M1 y r h sn t := hM.keep (fun x g1 g2 => O1 x (by omega))
  have er : M1 (y + 1) = r := hM1.1
  refine G.aload_n X 420 dL_law_419 rfl rfl ?_
  refine G.vI0 (d := 4) X ml_L_56 yv_X6_swap 423 dL_law_420 rfl (c_X6_swap l D s.heap.size sz kd rf M1 y h sn t  hY (by rw [er]; exact hV) (by rw [er]; exact hM1) ) ⟨_, _, hY.1, rfl, rfl⟩ (by decide) ⟨Nat.le_of_ble_eq_true rfl, Nat.le_of_ble_eq_true rfl⟩ (Nat.le_of_ble_eq_true rfl) (fun q2 M2 h2 => ?_)
  rw [er] at h2
  obtain ⟨e2, K2, O2⟩ := h2
  subst e1
  subst e2
  refine G.same X 745 dL_law_423 (by decide) ?_
  exact next M2 _ _ _ _ ⟨hX, hY, hay, hI2, CSt.keep C1 hI2.1.1.1.bn hI2.cb (fun x g1 g2 => O2 x (by omega)), K2⟩
set_option maxHeartbeats 1000000 in
theorem lc_10 {p : Program} {l : Launch} {e : Env} {s : State} {m : MethodId} {b : Nat} {below : List Frame} {meth : Method} {c : Code} {D : xD} {L : Nat} {xs : Nat → Int32} (X : Cx p s m meth c #[Value.ref b] code 4 RL ret D) (hxs : va_X b L xs s s.heap) (hbl : b < s.heap.size) (hL : L ≤ 2560) {a y sz i : Nat} {kd : xKd} {rf : xRf} {M : xM} {r : xR} {h : List xR} {sn : Option xR} {t : List Int} (hi : i + 5 ≤ L) (hI : LI a y kd rf M r h sn t) (next : ∀ (M' : xM) (r' : xR) (h' : List xR) (sn' : Option xR) (t' : List Int), LI a y kd rf M' r' h' sn' t' → LG p l e s m b below meth c D a y sz kd rf i M' 745) : LG p l e s m b below meth c D a y sz kd rf i M 428 := by
  obtain ⟨hX, hY, hay, hIv, hC, hM⟩ := id hI
  have hV := hIv.1.1
  have hB := hIv.cb
  have hI2 := hIv.act (ok_fuel hV)
  refine G.aload_n X 429 dL_law_428 rfl rfl ?_
  refine G.vI0 (d := 6) X ml_L_57 yv_X5_fuelRun 432 dL_law_429 rfl (c_X5_fuelRun l D s.heap.size sz kd rf M a r h sn t  hX hV hB hC ) ⟨_, _, hX.1, rfl, rfl⟩ (by decide) ⟨Nat.le_of_ble_eq_true rfl, Nat.le_of_ble_eq_true rfl⟩ (Nat.le_of_ble_eq_true rfl) (fun q1 M1 h1 => ?_)
  obtain ⟨e1, C1, O1⟩ := h1
  have hM1 : MSt M1 y r h sn t := hM.keep (fun x g1 g2 => O1 x (by omega))
  have er : M1 (y + 1) = r := hM1.1
  refine G.aload_n X 433 dL_law_432 rfl rfl ?_
  refine G.vI0 (d := 3) X ml_L_60 yv_X6_fuelRun 436 dL_law_433 rfl (c_X6_fuelRun l D s.heap.size sz kd rf M1 y h sn t  hY (by rw [er]; exact hV) (by rw [er]; exact hM1) ) ⟨_, _, hY.1, rfl, rfl⟩ (by decide) ⟨Nat.le_of_ble_eq_true rfl, Nat.le_of_ble_eq_true rfl⟩ (Nat.le_of_ble_eq_true rfl) (fun q2 M2 h2 => ?_)
  rw [er] at h2
  obtain ⟨e2, K2, O2⟩ := h2
  subst e1
  subst e2
  refine G.same X 745 dL_law_436 (by decide) ?_
  exact next M2 _ _ _ _ ⟨hX, hY, hay, hI2, CSt.keep C1 hI2.1.1.1.bn hI2.cb (fun x g1 g2 => O2 x (by omega)), K2⟩
set_option maxHeartbeats 1000000 in
theorem lc_11 {p : Program} {l : Launch} {e : Env} {s : State} {m : MethodId} {b : Nat} {below : List Frame} {meth : Method} {c : Code} {D : xD} {L : Nat} {xs : Nat → Int32} (X : Cx p s m meth c #[Value.ref b] code 4 RL ret D) (hxs : va_X b L xs s s.heap) (hbl : b < s.heap.size) (hL : L ≤ 2560) {a y sz i : Nat} {kd : xKd} {rf : xRf} {M : xM} {r : xR} {h : List xR} {sn : Option xR} {t : List Int} (hi : i + 5 ≤ L) (hI : LI a y kd rf M r h sn t) (next : ∀ (M' : xM) (r' : xR) (h' : List xR) (sn' : Option xR) (t' : List Int), LI a y kd rf M' r' h' sn' t' → LG p l e s m b below meth c D a y sz kd rf i M' 745) : LG p l e s m b below meth c D a y sz kd rf i M 441 := by
  obtain ⟨hX, hY, hay, hIv, hC, hM⟩ := id hI
  have hV := hIv.1.1
  have hB := hIv.cb
  have hI2 := hIv.act (ok_pass (n := (xs (i + 1)).toInt) hV)
  refine G.aload_n X 442 dL_law_441 rfl rfl ?_
  refine G.aload_n X 443 dL_law_442 rfl rfl ?_
  refine G.iload_n X 444 dL_law_443 rfl rfl ?_
  refine G.iconst X 445 dL_law_444 rfl ?_
  refine G.iadd X 446 dL_law_445 rfl ?_
  refine G.sld (i := i + 1) X hxs hbl (Nat.le_refl _) 447 dL_law_446 rfl (by omega) (by omega) hL ?_
  refine G.vI1 (d := 6) X ml_L_61 yv_X5_pass 450 dL_law_447 rfl (c_X5_pass l D s.heap.size sz kd rf M a r h sn t (xs (i + 1)).toInt hX hV hB hC (ir_x _)) ⟨_, _, hX.1, rfl, rfl⟩ (by decide) ⟨Nat.le_of_ble_eq_true rfl, Nat.le_of_ble_eq_true rfl⟩ (Nat.le_of_ble_eq_true rfl) (fun q1 M1 h1 => ?_)
  obtain ⟨e1, C1, O1⟩ := h1
  have hM1 : MSt M1 y r h sn t := hM.keep (fun x g1 g2 => O1 x (by omega))
  have er : M1 (y + 1) = r := hM1.1
  refine G.aload_n X 451 dL_law_450 rfl rfl ?_
  refine G.aload_n X 452 dL_law_451 rfl rfl ?_
  refine G.iload_n X 453 dL_law_452 rfl rfl ?_
  refine G.iconst X 454 dL_law_453 rfl ?_
  refine G.iadd X 455 dL_law_454 rfl ?_
  refine G.sld (i := i + 1) X hxs hbl (Nat.le_refl _) 456 dL_law_455 rfl (by omega) (by omega) hL ?_
  refine G.vI1 (d := 5) X ml_L_64 yv_X6_pass 459 dL_law_456 rfl (c_X6_pass l D s.heap.size sz kd rf M1 y h sn t (xs (i + 1)).toInt hY (by rw [er]; exact hV) (by rw [er]; exact hM1) (ir_x _)) ⟨_, _, hY.1, rfl, rfl⟩ (by decide) ⟨Nat.le_of_ble_eq_true rfl, Nat.le_of_ble_eq_true rfl⟩ (Nat.le_of_ble_eq_true rfl) (fun q2 M2 h2 => ?_)
  rw [er] at h2
  obtain ⟨e2, K2, O2⟩ := h2
  subst e1
  subst e2
  refine G.same X 745 dL_law_459 (by decide) ?_
  exact next M2 _ _ _ _ ⟨hX, hY, hay, hI2, CSt.keep C1 hI2.1.1.1.bn hI2.cb (fun x g1 g2 => O2 x (by omega)), K2⟩
set_option maxHeartbeats 1000000 in
theorem lc_12 {p : Program} {l : Launch} {e : Env} {s : State} {m : MethodId} {b : Nat} {below : List Frame} {meth : Method} {c : Code} {D : xD} {L : Nat} {xs : Nat → Int32} (X : Cx p s m meth c #[Value.ref b] code 4 RL ret D) (hxs : va_X b L xs s s.heap) (hbl : b < s.heap.size) (hL : L ≤ 2560) {a y sz i : Nat} {kd : xKd} {rf : xRf} {M : xM} {r : xR} {h : List xR} {sn : Option xR} {t : List Int} (hi : i + 5 ≤ L) (hI : LI a y kd rf M r h sn t) (next : ∀ (M' : xM) (r' : xR) (h' : List xR) (sn' : Option xR) (t' : List Int), LI a y kd rf M' r' h' sn' t' → LG p l e s m b below meth c D a y sz kd rf i M' 745) : LG p l e s m b below meth c D a y sz kd rf i M 464 := by
  obtain ⟨hX, hY, hay, hIv, hC, hM⟩ := id hI
  have hV := hIv.1.1
  have hB := hIv.cb
  have hx : 0 ≤ ((xs (i + 1)).toInt % 65536) ∧ ((xs (i + 1)).toInt % 65536) < 65536 := ⟨by omega, by omega⟩
  refine G.aload_n X 465 dL_law_464 rfl rfl ?_
  refine G.aload_n X 466 dL_law_465 rfl rfl ?_
  refine G.iload_n X 467 dL_law_466 rfl rfl ?_
  refine G.iconst X 468 dL_law_467 rfl ?_
  refine G.iadd X 469 dL_law_468 rfl ?_
  refine G.sld (i := i + 1) X hxs hbl (Nat.le_refl _) 470 dL_law_469 rfl (by omega) (by omega) hL ?_
  refine G.i2c X 471 dL_law_470 rfl (ir_x _) ?_
  refine G.vI1 (d := 1) X ml_L_65 yv_X5_type 474 dL_law_471 rfl (c_X5_type l D s.heap.size sz kd rf M a r h sn t ((xs (i + 1)).toInt % 65536) hX hV.1.bn hB hC hx) ⟨_, _, hX.1, rfl, rfl⟩ (by decide) ⟨Nat.le_of_ble_eq_true rfl, Nat.le_of_ble_eq_true rfl⟩ (Nat.le_of_ble_eq_true rfl) (fun q1 M1 h1 => ?_)
  obtain ⟨hd1, O1⟩ := h1
  have hM1 : MSt M1 y r h sn t := hM.keep (fun x g1 g2 => O1 x (by omega))
  have er : M1 (y + 1) = r := hM1.1
  refine G.aload_n X 475 dL_law_474 rfl rfl ?_
  refine G.aload_n X 476 dL_law_475 rfl rfl ?_
  refine G.iload_n X 477 dL_law_476 rfl rfl ?_
  refine G.iconst X 478 dL_law_477 rfl ?_
  refine G.iadd X 479 dL_law_478 rfl ?_
  refine G.sld (i := i + 1) X hxs hbl (Nat.le_refl _) 480 dL_law_479 rfl (by omega) (by omega) hL ?_
  refine G.i2c X 481 dL_law_480 rfl (ir_x _) ?_
  refine G.vI1 (d := 0) X ml_L_69 yv_X6_type 484 dL_law_481 rfl (c_X6_type l D s.heap.size sz kd rf M1 y h sn t ((xs (i + 1)).toInt % 65536) hY (by rw [er]; exact hM1) hx) ⟨_, _, hY.1, rfl, rfl⟩ (by decide) ⟨Nat.le_of_ble_eq_true rfl, Nat.le_of_ble_eq_true rfl⟩ (Nat.le_of_ble_eq_true rfl) (fun q2 M2 h2 => ?_)
  rw [er] at h2
  rcases hd1 with ⟨g1, e1, C1⟩ | ⟨g1, e1, C1⟩
  · rcases h2 with ⟨g2, e2, em2⟩ | ⟨g2, e2, K2, O2⟩
    · exfalso
      omega
    · subst e1
      subst e2
      refine G.same X 745 dL_law_484 (by decide) ?_
      exact next M2 _ _ _ _ ⟨hX, hY, hay, hIv, CSt.keep C1 hV.1.bn hB (fun x g1 g2 => O2 x (by omega)), K2⟩
  · rcases h2 with ⟨g2, e2, em2⟩ | ⟨g2, e2, K2, O2⟩
    · subst e1
      subst e2
      refine G.same X 745 dL_law_484 (by decide) ?_
      exact next M2 _ _ _ _ ⟨hX, hY, hay, hIv, by rw [em2]; exact C1, by rw [em2]; exact hM1⟩
    · exfalso
      omega
set_option maxHeartbeats 1000000 in
theorem lc_13 {p : Program} {l : Launch} {e : Env} {s : State} {m : MethodId} {b : Nat} {below : List Frame} {meth : Method} {c : Code} {D : xD} {L : Nat} {xs : Nat → Int32} (X : Cx p s m meth c #[Value.ref b] code 4 RL ret D) (hxs : va_X b L xs s s.heap) (hbl : b < s.heap.size) (hL : L ≤ 2560) {a y sz i : Nat} {kd : xKd} {rf : xRf} {M : xM} {r : xR} {h : List xR} {sn : Option xR} {t : List Int} (hi : i + 5 ≤ L) (hI : LI a y kd rf M r h sn t) (next : ∀ (M' : xM) (r' : xR) (h' : List xR) (sn' : Option xR) (t' : List Int), LI a y kd rf M' r' h' sn' t' → LG p l e s m b below meth c D a y sz kd rf i M' 745) : LG p l e s m b below meth c D a y sz kd rf i M 489 := by
  obtain ⟨hX, hY, hay, hIv, hC, hM⟩ := id hI
  have hV := hIv.1.1
  have hB := hIv.cb
  refine G.aload_n X 490 dL_law_489 rfl rfl ?_
  refine G.vI0 (d := 0) X ml_L_70 yv_X5_clearText 493 dL_law_490 rfl (c_X5_clearText l D s.heap.size sz kd rf M a r h sn t hX hV.1.bn hB hC) ⟨_, _, hX.1, rfl, rfl⟩ (by decide) ⟨Nat.le_of_ble_eq_true rfl, Nat.le_of_ble_eq_true rfl⟩ (Nat.le_of_ble_eq_true rfl) (fun q1 M1 h1 => ?_)
  obtain ⟨e1, C1, O1⟩ := h1
  have hM1 : MSt M1 y r h sn t := hM.keep (fun x g1 g2 => O1 x (by omega))
  have er : M1 (y + 1) = r := hM1.1
  refine G.aload_n X 494 dL_law_493 rfl rfl ?_
  refine G.vI0 (d := 0) X ml_L_73 yv_X6_clearText 497 dL_law_494 rfl (c_X6_clearText l D s.heap.size sz kd rf M1 y h sn t hY (by rw [er]; exact hM1)) ⟨_, _, hY.1, rfl, rfl⟩ (by decide) ⟨Nat.le_of_ble_eq_true rfl, Nat.le_of_ble_eq_true rfl⟩ (Nat.le_of_ble_eq_true rfl) (fun q2 M2 h2 => ?_)
  rw [er] at h2
  obtain ⟨e2, K2, O2⟩ := h2
  subst e1
  subst e2
  refine G.same X 745 dL_law_497 (by decide) ?_
  exact next M2 _ _ _ _ ⟨hX, hY, hay, hIv, CSt.keep C1 hV.1.bn hB (fun x g1 g2 => O2 x (by omega)), K2⟩
set_option maxHeartbeats 1000000 in
theorem lc_14 {p : Program} {l : Launch} {e : Env} {s : State} {m : MethodId} {b : Nat} {below : List Frame} {meth : Method} {c : Code} {D : xD} {L : Nat} {xs : Nat → Int32} (X : Cx p s m meth c #[Value.ref b] code 4 RL ret D) (hxs : va_X b L xs s s.heap) (hbl : b < s.heap.size) (hL : L ≤ 2560) {a y sz i : Nat} {kd : xKd} {rf : xRf} {M : xM} {r : xR} {h : List xR} {sn : Option xR} {t : List Int} (hi : i + 5 ≤ L) (hI : LI a y kd rf M r h sn t) (next : ∀ (M' : xM) (r' : xR) (h' : List xR) (sn' : Option xR) (t' : List Int), LI a y kd rf M' r' h' sn' t' → LG p l e s m b below meth c D a y sz kd rf i M' 745) : LG p l e s m b below meth c D a y sz kd rf i M 502 := by
  obtain ⟨hX, hY, hay, hIv, hC, hM⟩ := id hI
  have hV := hIv.1.1
  have hB := hIv.cb
  have hI2 := hIv.act (ok_read (t := t) hV)
  refine G.aload_n X 503 dL_law_502 rfl rfl ?_
  refine G.vI0 (d := 4) X ml_L_74 yv_X5_readSites 506 dL_law_503 rfl (c_X5_readSites l D s.heap.size sz kd rf M a r h sn t  hX hV hB hC ) ⟨_, _, hX.1, rfl, rfl⟩ (by decide) ⟨Nat.le_of_ble_eq_true rfl, Nat.le_of_ble_eq_true rfl⟩ (Nat.le_of_ble_eq_true rfl) (fun q1 M1 h1 => ?_)
  obtain ⟨e1, C1, O1⟩ := h1
  have hM1 : MSt M1 y r h sn t := hM.keep (fun x g1 g2 => O1 x (by omega))
  have er : M1 (y + 1) = r := hM1.1
  refine G.aload_n X 507 dL_law_506 rfl rfl ?_
  refine G.vI0 (d := 3) X ml_L_77 yv_X6_readSites 510 dL_law_507 rfl (c_X6_readSites l D s.heap.size sz kd rf M1 y h sn t  hY (by rw [er]; exact hV) (by rw [er]; exact hM1) ) ⟨_, _, hY.1, rfl, rfl⟩ (by decide) ⟨Nat.le_of_ble_eq_true rfl, Nat.le_of_ble_eq_true rfl⟩ (Nat.le_of_ble_eq_true rfl) (fun q2 M2 h2 => ?_)
  rw [er] at h2
  obtain ⟨e2, K2, O2⟩ := h2
  subst e1
  subst e2
  refine G.same X 745 dL_law_510 (by decide) ?_
  exact next M2 _ _ _ _ ⟨hX, hY, hay, hI2, CSt.keep C1 hI2.1.1.1.bn hI2.cb (fun x g1 g2 => O2 x (by omega)), K2⟩
set_option maxHeartbeats 1000000 in
theorem lc_15 {p : Program} {l : Launch} {e : Env} {s : State} {m : MethodId} {b : Nat} {below : List Frame} {meth : Method} {c : Code} {D : xD} {L : Nat} {xs : Nat → Int32} (X : Cx p s m meth c #[Value.ref b] code 4 RL ret D) (hxs : va_X b L xs s s.heap) (hbl : b < s.heap.size) (hL : L ≤ 2560) {a y sz i : Nat} {kd : xKd} {rf : xRf} {M : xM} {r : xR} {h : List xR} {sn : Option xR} {t : List Int} (hi : i + 5 ≤ L) (hI : LI a y kd rf M r h sn t) (next : ∀ (M' : xM) (r' : xR) (h' : List xR) (sn' : Option xR) (t' : List Int), LI a y kd rf M' r' h' sn' t' → LG p l e s m b below meth c D a y sz kd rf i M' 745) : LG p l e s m b below meth c D a y sz kd rf i M 515 := by
  obtain ⟨hX, hY, hay, hIv, hC, hM⟩ := id hI
  have hV := hIv.1.1
  have hB := hIv.cb
  cases h with
  | nil =>
    refine G.aload_n X 516 dL_law_515 rfl rfl ?_
    refine G.vI0 (d := 3) X ml_L_78 yv_X5_undo 519 dL_law_516 rfl (c_X5_undo0 l D s.heap.size sz kd rf M a r sn t hX hC) ⟨_, _, hX.1, rfl, rfl⟩ (by decide) ⟨Nat.le_of_ble_eq_true rfl, Nat.le_of_ble_eq_true rfl⟩ (Nat.le_of_ble_eq_true rfl) (fun q1 M1 h1 => ?_)
    obtain ⟨e1, em⟩ := h1
    have C1 : CSt M1 a r [] sn t := by rw [em]; exact hC
    have O1 : Off M M1 a 215 := by rw [em]; exact Off.rf
    have hM1 : MSt M1 y r [] sn t := hM.keep (fun x g1 g2 => O1 x (by omega))
    have er : M1 (y + 1) = r := hM1.1
    refine G.aload_n X 520 dL_law_519 rfl rfl ?_
    refine G.vI0 (d := 0) X ml_L_81 yv_X6_undo 523 dL_law_520 rfl (c_X6_undo0 l D s.heap.size sz kd rf M1 y sn t hY (by rw [er]; exact hM1)) ⟨_, _, hY.1, rfl, rfl⟩ (by decide) ⟨Nat.le_of_ble_eq_true rfl, Nat.le_of_ble_eq_true rfl⟩ (Nat.le_of_ble_eq_true rfl) (fun q2 M2 h2 => ?_)
    obtain ⟨e2, em2⟩ := h2
    have K2 : MSt M2 y r [] sn t := by rw [em2]; exact hM1
    have O2 : Off M1 M2 y 8 := by rw [em2]; exact Off.rf
    subst e1
    subst e2
    refine G.same X 745 dL_law_523 (by decide) ?_
    exact next M2 _ _ _ _ ⟨hX, hY, hay, hIv, CSt.keep C1 hV.1.bn hB (fun x g1 g2 => O2 x (by omega)), K2⟩
  | cons r0 h =>
    have h0 := hIv.2.1 r0 List.mem_cons_self
    have hI2 : Iv rowI r0 h sn := ⟨h0, fun q hq => hIv.2.1 q (List.mem_cons_of_mem _ hq), hIv.2.2⟩
    refine G.aload_n X 516 dL_law_515 rfl rfl ?_
    refine G.vI0 (d := 3) X ml_L_78 yv_X5_undo 519 dL_law_516 rfl (c_X5_undo1 l D s.heap.size sz kd rf M a r r0 h sn t hX h0.1 hI2.cb hC) ⟨_, _, hX.1, rfl, rfl⟩ (by decide) ⟨Nat.le_of_ble_eq_true rfl, Nat.le_of_ble_eq_true rfl⟩ (Nat.le_of_ble_eq_true rfl) (fun q1 M1 h1 => ?_)
    obtain ⟨e1, C1, O1⟩ := h1
    have hM1 : MSt M1 y r (r0 :: h) sn t := hM.keep (fun x g1 g2 => O1 x (by omega))
    have er : M1 (y + 1) = r := hM1.1
    refine G.aload_n X 520 dL_law_519 rfl rfl ?_
    refine G.vI0 (d := 0) X ml_L_81 yv_X6_undo 523 dL_law_520 rfl (c_X6_undo1 l D s.heap.size sz kd rf M1 y r0 h sn t hY (by rw [er]; exact hM1) (by rw [er]; exact Iv.row hIv.1.2 h0.2)) ⟨_, _, hY.1, rfl, rfl⟩ (by decide) ⟨Nat.le_of_ble_eq_true rfl, Nat.le_of_ble_eq_true rfl⟩ (Nat.le_of_ble_eq_true rfl) (fun q2 M2 h2 => ?_)
    obtain ⟨e2, K2, O2⟩ := h2
    subst e1
    subst e2
    refine G.same X 745 dL_law_523 (by decide) ?_
    exact next M2 _ _ _ _ ⟨hX, hY, hay, hI2, CSt.keep C1 h0.1.1.bn hI2.cb (fun x g1 g2 => O2 x (by omega)), K2⟩
set_option maxHeartbeats 1000000 in
theorem lc_16 {p : Program} {l : Launch} {e : Env} {s : State} {m : MethodId} {b : Nat} {below : List Frame} {meth : Method} {c : Code} {D : xD} {L : Nat} {xs : Nat → Int32} (X : Cx p s m meth c #[Value.ref b] code 4 RL ret D) (hxs : va_X b L xs s s.heap) (hbl : b < s.heap.size) (hL : L ≤ 2560) {a y sz i : Nat} {kd : xKd} {rf : xRf} {M : xM} {r : xR} {h : List xR} {sn : Option xR} {t : List Int} (hi : i + 5 ≤ L) (hI : LI a y kd rf M r h sn t) (next : ∀ (M' : xM) (r' : xR) (h' : List xR) (sn' : Option xR) (t' : List Int), LI a y kd rf M' r' h' sn' t' → LG p l e s m b below meth c D a y sz kd rf i M' 745) : LG p l e s m b below meth c D a y sz kd rf i M 528 := by
  obtain ⟨hX, hY, hay, hIv, hC, hM⟩ := id hI
  have hV := hIv.1.1
  have hB := hIv.cb
  have hI2 : Iv rowI r h (some r) := ⟨hIv.1, hIv.2.1, fun q hq => by cases hq; exact hIv.1⟩
  refine G.aload_n X 529 dL_law_528 rfl rfl ?_
  refine G.vI0 (d := 2) X ml_L_82 yv_X5_keep 532 dL_law_529 rfl (c_X5_keep l D s.heap.size sz kd rf M a r h sn t hX hV hB hC) ⟨_, _, hX.1, rfl, rfl⟩ (by decide) ⟨Nat.le_of_ble_eq_true rfl, Nat.le_of_ble_eq_true rfl⟩ (Nat.le_of_ble_eq_true rfl) (fun q1 M1 h1 => ?_)
  obtain ⟨e1, C1, O1⟩ := h1
  have hM1 : MSt M1 y r h sn t := hM.keep (fun x g1 g2 => O1 x (by omega))
  have er : M1 (y + 1) = r := hM1.1
  refine G.aload_n X 533 dL_law_532 rfl rfl ?_
  refine G.vI0 (d := 0) X ml_L_85 yv_X6_keep 536 dL_law_533 rfl (c_X6_keep l D s.heap.size sz kd rf M1 y h sn t hY (by rw [er]; exact hM1)) ⟨_, _, hY.1, rfl, rfl⟩ (by decide) ⟨Nat.le_of_ble_eq_true rfl, Nat.le_of_ble_eq_true rfl⟩ (Nat.le_of_ble_eq_true rfl) (fun q2 M2 h2 => ?_)
  rw [er] at h2
  obtain ⟨e2, K2, O2⟩ := h2
  subst e1
  subst e2
  refine G.same X 745 dL_law_536 (by decide) ?_
  exact next M2 _ _ _ _ ⟨hX, hY, hay, hI2, CSt.keep C1 hV.1.bn hI2.cb (fun x g1 g2 => O2 x (by omega)), K2⟩
set_option maxHeartbeats 1000000 in
theorem lc_17 {p : Program} {l : Launch} {e : Env} {s : State} {m : MethodId} {b : Nat} {below : List Frame} {meth : Method} {c : Code} {D : xD} {L : Nat} {xs : Nat → Int32} (X : Cx p s m meth c #[Value.ref b] code 4 RL ret D) (hxs : va_X b L xs s s.heap) (hbl : b < s.heap.size) (hL : L ≤ 2560) {a y sz i : Nat} {kd : xKd} {rf : xRf} {M : xM} {r : xR} {h : List xR} {sn : Option xR} {t : List Int} (hi : i + 5 ≤ L) (hI : LI a y kd rf M r h sn t) (next : ∀ (M' : xM) (r' : xR) (h' : List xR) (sn' : Option xR) (t' : List Int), LI a y kd rf M' r' h' sn' t' → LG p l e s m b below meth c D a y sz kd rf i M' 745) : LG p l e s m b below meth c D a y sz kd rf i M 541 := by
  obtain ⟨hX, hY, hay, hIv, hC, hM⟩ := id hI
  have hV := hIv.1.1
  have hB := hIv.cb
  cases sn with
  | none =>
    refine G.aload_n X 542 dL_law_541 rfl rfl ?_
    refine G.vI0 (d := 3) X ml_L_86 yv_X5_restore 545 dL_law_542 rfl (c_X5_restore0 l D s.heap.size sz kd rf M a r h t hX hC) ⟨_, _, hX.1, rfl, rfl⟩ (by decide) ⟨Nat.le_of_ble_eq_true rfl, Nat.le_of_ble_eq_true rfl⟩ (Nat.le_of_ble_eq_true rfl) (fun q1 M1 h1 => ?_)
    obtain ⟨e1, em⟩ := h1
    have C1 : CSt M1 a r h none t := by rw [em]; exact hC
    have O1 : Off M M1 a 215 := by rw [em]; exact Off.rf
    have hM1 : MSt M1 y r h none t := hM.keep (fun x g1 g2 => O1 x (by omega))
    have er : M1 (y + 1) = r := hM1.1
    refine G.aload_n X 546 dL_law_545 rfl rfl ?_
    refine G.vI0 (d := 1) X ml_L_89 yv_X6_restore 549 dL_law_546 rfl (c_X6_restore0 l D s.heap.size sz kd rf M1 y h t hY (by rw [er]; exact hM1)) ⟨_, _, hY.1, rfl, rfl⟩ (by decide) ⟨Nat.le_of_ble_eq_true rfl, Nat.le_of_ble_eq_true rfl⟩ (Nat.le_of_ble_eq_true rfl) (fun q2 M2 h2 => ?_)
    obtain ⟨e2, em2⟩ := h2
    have K2 : MSt M2 y r h none t := by rw [em2]; exact hM1
    have O2 : Off M1 M2 y 8 := by rw [em2]; exact Off.rf
    subst e1
    subst e2
    refine G.same X 745 dL_law_549 (by decide) ?_
    exact next M2 _ _ _ _ ⟨hX, hY, hay, hIv, CSt.keep C1 hV.1.bn hB (fun x g1 g2 => O2 x (by omega)), K2⟩
  | some r0 =>
    have h0 := hIv.2.2 r0 rfl
    have hI2 : Iv rowI r0 ((r :: h).take 5) (some r0) := hIv.act (Ok.so ⟨h0.1, Iv.row hIv.1.2 h0.2⟩)
    refine G.aload_n X 542 dL_law_541 rfl rfl ?_
    refine G.vI0 (d := 3) X ml_L_86 yv_X5_restore 545 dL_law_542 rfl (c_X5_restore1 l D s.heap.size sz kd rf M a r r0 h t hX hV h0.1 hB hC) ⟨_, _, hX.1, rfl, rfl⟩ (by decide) ⟨Nat.le_of_ble_eq_true rfl, Nat.le_of_ble_eq_true rfl⟩ (Nat.le_of_ble_eq_true rfl) (fun q1 M1 h1 => ?_)
    obtain ⟨e1, C1, O1⟩ := h1
    have hM1 : MSt M1 y r h (some r0) t := hM.keep (fun x g1 g2 => O1 x (by omega))
    have er : M1 (y + 1) = r := hM1.1
    refine G.aload_n X 546 dL_law_545 rfl rfl ?_
    refine G.vI0 (d := 1) X ml_L_89 yv_X6_restore 549 dL_law_546 rfl (c_X6_restore1 l D s.heap.size sz kd rf M1 y r0 h t hY (by rw [er]; exact hM1) (by rw [er]; exact Iv.row hIv.1.2 h0.2)) ⟨_, _, hY.1, rfl, rfl⟩ (by decide) ⟨Nat.le_of_ble_eq_true rfl, Nat.le_of_ble_eq_true rfl⟩ (Nat.le_of_ble_eq_true rfl) (fun q2 M2 h2 => ?_)
    rw [er] at h2
    obtain ⟨e2, K2, O2⟩ := h2
    subst e1
    subst e2
    refine G.same X 745 dL_law_549 (by decide) ?_
    exact next M2 _ _ _ _ ⟨hX, hY, hay, hI2, CSt.keep C1 h0.1.1.bn hI2.cb (fun x g1 g2 => O2 x (by omega)), K2⟩
set_option maxHeartbeats 1000000 in
theorem lc_18 {p : Program} {l : Launch} {e : Env} {s : State} {m : MethodId} {b : Nat} {below : List Frame} {meth : Method} {c : Code} {D : xD} {L : Nat} {xs : Nat → Int32} (X : Cx p s m meth c #[Value.ref b] code 4 RL ret D) (hxs : va_X b L xs s s.heap) (hbl : b < s.heap.size) (hL : L ≤ 2560) {a y sz i : Nat} {kd : xKd} {rf : xRf} {M : xM} {r : xR} {h : List xR} {sn : Option xR} {t : List Int} (hi : i + 5 ≤ L) (hI : LI a y kd rf M r h sn t) (next : ∀ (M' : xM) (r' : xR) (h' : List xR) (sn' : Option xR) (t' : List Int), LI a y kd rf M' r' h' sn' t' → LG p l e s m b below meth c D a y sz kd rf i M' 745) : LG p l e s m b below meth c D a y sz kd rf i M 554 := by
  obtain ⟨hX, hY, hay, hIv, hC, hM⟩ := id hI
  have hV := hIv.1.1
  have hB := hIv.cb
  refine G.aload_n X 555 dL_law_554 rfl rfl ?_
  refine G.aload_n X 556 dL_law_555 rfl rfl ?_
  refine G.iload_n X 557 dL_law_556 rfl rfl ?_
  refine G.iconst X 558 dL_law_557 rfl ?_
  refine G.iadd X 559 dL_law_558 rfl ?_
  refine G.sld (i := i + 1) X hxs hbl (Nat.le_refl _) 560 dL_law_559 rfl (by omega) (by omega) hL ?_
  refine G.aload_n X 561 dL_law_560 rfl rfl ?_
  refine G.iload_n X 562 dL_law_561 rfl rfl ?_
  refine G.iconst X 563 dL_law_562 rfl ?_
  refine G.iadd X 564 dL_law_563 rfl ?_
  refine G.sld (i := i + 2) X hxs hbl (Nat.le_refl _) 565 dL_law_564 rfl (by omega) (by omega) hL ?_
  refine G.vI2 (d := 2) X ml_L_90 yv_X5_set 568 dL_law_565 rfl (c_X5_set l D s.heap.size sz kd rf M a r h sn t (xs (i + 1)).toInt (xs (i + 2)).toInt hX hV hB hC (ir_x _) (ir_x _)) ⟨_, _, hX.1, rfl, rfl⟩ (by decide) ⟨Nat.le_of_ble_eq_true rfl, Nat.le_of_ble_eq_true rfl⟩ (Nat.le_of_ble_eq_true rfl) (fun q1 M1 h1 => ?_)
  obtain ⟨e1, em⟩ := h1
  have C1 : CSt M1 a r h sn t := by rw [em]; exact hC
  have O1 : Off M M1 a 215 := by rw [em]; exact Off.rf
  have hM1 : MSt M1 y r h sn t := hM.keep (fun x g1 g2 => O1 x (by omega))
  have er : M1 (y + 1) = r := hM1.1
  refine G.aload_n X 569 dL_law_568 rfl rfl ?_
  refine G.aload_n X 570 dL_law_569 rfl rfl ?_
  refine G.iload_n X 571 dL_law_570 rfl rfl ?_
  refine G.iconst X 572 dL_law_571 rfl ?_
  refine G.iadd X 573 dL_law_572 rfl ?_
  refine G.sld (i := i + 1) X hxs hbl (Nat.le_refl _) 574 dL_law_573 rfl (by omega) (by omega) hL ?_
  refine G.aload_n X 575 dL_law_574 rfl rfl ?_
  refine G.iload_n X 576 dL_law_575 rfl rfl ?_
  refine G.iconst X 577 dL_law_576 rfl ?_
  refine G.iadd X 578 dL_law_577 rfl ?_
  refine G.sld (i := i + 2) X hxs hbl (Nat.le_refl _) 579 dL_law_578 rfl (by omega) (by omega) hL ?_
  refine G.vI2 (d := 2) X ml_L_93 yv_X6_set 582 dL_law_579 rfl (c_X6_set l D s.heap.size sz kd rf M1 y (xs (i + 1)).toInt (xs (i + 2)).toInt hY (by rw [er]; exact hV.k) (ir_x _) (ir_x _)) ⟨_, _, hY.1, rfl, rfl⟩ (by decide) ⟨Nat.le_of_ble_eq_true rfl, Nat.le_of_ble_eq_true rfl⟩ (Nat.le_of_ble_eq_true rfl) (fun q2 M2 h2 => ?_)
  rw [er] at h2
  obtain ⟨e2, em2⟩ := h2
  have K2 : MSt M2 y r h sn t := by rw [em2]; exact hM1
  have O2 : Off M1 M2 y 8 := by rw [em2]; exact Off.rf
  subst e1
  subst e2
  refine G.same X 745 dL_law_582 (by decide) ?_
  exact next M2 _ _ _ _ ⟨hX, hY, hay, hIv, CSt.keep C1 hV.1.bn hB (fun x g1 g2 => O2 x (by omega)), K2⟩
set_option maxHeartbeats 1000000 in
theorem lc_19 {p : Program} {l : Launch} {e : Env} {s : State} {m : MethodId} {b : Nat} {below : List Frame} {meth : Method} {c : Code} {D : xD} {L : Nat} {xs : Nat → Int32} (X : Cx p s m meth c #[Value.ref b] code 4 RL ret D) (hxs : va_X b L xs s s.heap) (hbl : b < s.heap.size) (hL : L ≤ 2560) {a y sz i : Nat} {kd : xKd} {rf : xRf} {M : xM} {r : xR} {h : List xR} {sn : Option xR} {t : List Int} (hi : i + 5 ≤ L) (hI : LI a y kd rf M r h sn t) (next : ∀ (M' : xM) (r' : xR) (h' : List xR) (sn' : Option xR) (t' : List Int), LI a y kd rf M' r' h' sn' t' → LG p l e s m b below meth c D a y sz kd rf i M' 745) : LG p l e s m b below meth c D a y sz kd rf i M 587 := by
  obtain ⟨hX, hY, hay, hIv, hC, hM⟩ := id hI
  have hV := hIv.1.1
  have hB := hIv.cb
  refine G.aload_n X 588 dL_law_587 rfl rfl ?_
  refine G.aload_n X 589 dL_law_588 rfl rfl ?_
  refine G.iload_n X 590 dL_law_589 rfl rfl ?_
  refine G.iconst X 591 dL_law_590 rfl ?_
  refine G.iadd X 592 dL_law_591 rfl ?_
  refine G.sld (i := i + 1) X hxs hbl (Nat.le_refl _) 593 dL_law_592 rfl (by omega) (by omega) hL ?_
  refine G.aload_n X 594 dL_law_593 rfl rfl ?_
  refine G.iload_n X 595 dL_law_594 rfl rfl ?_
  refine G.iconst X 596 dL_law_595 rfl ?_
  refine G.iadd X 597 dL_law_596 rfl ?_
  refine G.sld (i := i + 2) X hxs hbl (Nat.le_refl _) 598 dL_law_597 rfl (by omega) (by omega) hL ?_
  refine G.vI2 (d := 1) X ml_L_94 yv_X5_site 601 dL_law_598 rfl (c_X5_site l D s.heap.size sz kd rf M a r h sn t (xs (i + 1)).toInt (xs (i + 2)).toInt hX hV hB hC (ir_x _) (ir_x _)) ⟨_, _, hX.1, rfl, rfl⟩ (by decide) ⟨Nat.le_of_ble_eq_true rfl, Nat.le_of_ble_eq_true rfl⟩ (Nat.le_of_ble_eq_true rfl) (fun q1 M1 h1 => ?_)
  obtain ⟨e1, em⟩ := h1
  have C1 : CSt M1 a r h sn t := by rw [em]; exact hC
  have O1 : Off M M1 a 215 := by rw [em]; exact Off.rf
  have hM1 : MSt M1 y r h sn t := hM.keep (fun x g1 g2 => O1 x (by omega))
  have er : M1 (y + 1) = r := hM1.1
  refine G.aload_n X 602 dL_law_601 rfl rfl ?_
  refine G.aload_n X 603 dL_law_602 rfl rfl ?_
  refine G.iload_n X 604 dL_law_603 rfl rfl ?_
  refine G.iconst X 605 dL_law_604 rfl ?_
  refine G.iadd X 606 dL_law_605 rfl ?_
  refine G.sld (i := i + 1) X hxs hbl (Nat.le_refl _) 607 dL_law_606 rfl (by omega) (by omega) hL ?_
  refine G.aload_n X 608 dL_law_607 rfl rfl ?_
  refine G.iload_n X 609 dL_law_608 rfl rfl ?_
  refine G.iconst X 610 dL_law_609 rfl ?_
  refine G.iadd X 611 dL_law_610 rfl ?_
  refine G.sld (i := i + 2) X hxs hbl (Nat.le_refl _) 612 dL_law_611 rfl (by omega) (by omega) hL ?_
  refine G.vI2 (d := 2) X ml_L_97 yv_X6_site 615 dL_law_612 rfl (c_X6_site l D s.heap.size sz kd rf M1 y (xs (i + 1)).toInt (xs (i + 2)).toInt hY (by rw [er]; exact hV.k) (ir_x _) (ir_x _)) ⟨_, _, hY.1, rfl, rfl⟩ (by decide) ⟨Nat.le_of_ble_eq_true rfl, Nat.le_of_ble_eq_true rfl⟩ (Nat.le_of_ble_eq_true rfl) (fun q2 M2 h2 => ?_)
  rw [er] at h2
  obtain ⟨e2, em2⟩ := h2
  have K2 : MSt M2 y r h sn t := by rw [em2]; exact hM1
  have O2 : Off M1 M2 y 8 := by rw [em2]; exact Off.rf
  subst e1
  subst e2
  refine G.same X 745 dL_law_615 (by decide) ?_
  exact next M2 _ _ _ _ ⟨hX, hY, hay, hIv, CSt.keep C1 hV.1.bn hB (fun x g1 g2 => O2 x (by omega)), K2⟩
set_option maxHeartbeats 1000000 in
theorem lc_20 {p : Program} {l : Launch} {e : Env} {s : State} {m : MethodId} {b : Nat} {below : List Frame} {meth : Method} {c : Code} {D : xD} {L : Nat} {xs : Nat → Int32} (X : Cx p s m meth c #[Value.ref b] code 4 RL ret D) (hxs : va_X b L xs s s.heap) (hbl : b < s.heap.size) (hL : L ≤ 2560) {a y sz i : Nat} {kd : xKd} {rf : xRf} {M : xM} {r : xR} {h : List xR} {sn : Option xR} {t : List Int} (hi : i + 5 ≤ L) (hI : LI a y kd rf M r h sn t) (next : ∀ (M' : xM) (r' : xR) (h' : List xR) (sn' : Option xR) (t' : List Int), LI a y kd rf M' r' h' sn' t' → LG p l e s m b below meth c D a y sz kd rf i M' 745) : LG p l e s m b below meth c D a y sz kd rf i M 620 := by
  obtain ⟨hX, hY, hay, hIv, hC, hM⟩ := id hI
  have hV := hIv.1.1
  have hB := hIv.cb
  refine G.aload_n X 621 dL_law_620 rfl rfl ?_
  refine G.aload_n X 622 dL_law_621 rfl rfl ?_
  refine G.iload_n X 623 dL_law_622 rfl rfl ?_
  refine G.iconst X 624 dL_law_623 rfl ?_
  refine G.iadd X 625 dL_law_624 rfl ?_
  refine G.sld (i := i + 1) X hxs hbl (Nat.le_refl _) 626 dL_law_625 rfl (by omega) (by omega) hL ?_
  refine G.vI1 (d := 3) X ml_L_98 yv_X5_why 629 dL_law_626 rfl (c_X5_why l D s.heap.size sz kd rf M a r h sn t (xs (i + 1)).toInt hX hV hB hC (ir_x _)) ⟨_, _, hX.1, rfl, rfl⟩ (by decide) ⟨Nat.le_of_ble_eq_true rfl, Nat.le_of_ble_eq_true rfl⟩ (Nat.le_of_ble_eq_true rfl) (fun q1 M1 h1 => ?_)
  obtain ⟨e1, em⟩ := h1
  have C1 : CSt M1 a r h sn t := by rw [em]; exact hC
  have O1 : Off M M1 a 215 := by rw [em]; exact Off.rf
  have hM1 : MSt M1 y r h sn t := hM.keep (fun x g1 g2 => O1 x (by omega))
  have er : M1 (y + 1) = r := hM1.1
  refine G.aload_n X 630 dL_law_629 rfl rfl ?_
  refine G.aload_n X 631 dL_law_630 rfl rfl ?_
  refine G.iload_n X 632 dL_law_631 rfl rfl ?_
  refine G.iconst X 633 dL_law_632 rfl ?_
  refine G.iadd X 634 dL_law_633 rfl ?_
  refine G.sld (i := i + 1) X hxs hbl (Nat.le_refl _) 635 dL_law_634 rfl (by omega) (by omega) hL ?_
  refine G.vI1 (d := 2) X ml_L_101 yv_X6_why 638 dL_law_635 rfl (c_X6_why l D s.heap.size sz kd rf M1 y (xs (i + 1)).toInt hY (by rw [er]; exact hV.k) (ir_x _)) ⟨_, _, hY.1, rfl, rfl⟩ (by decide) ⟨Nat.le_of_ble_eq_true rfl, Nat.le_of_ble_eq_true rfl⟩ (Nat.le_of_ble_eq_true rfl) (fun q2 M2 h2 => ?_)
  rw [er] at h2
  obtain ⟨e2, em2⟩ := h2
  have K2 : MSt M2 y r h sn t := by rw [em2]; exact hM1
  have O2 : Off M1 M2 y 8 := by rw [em2]; exact Off.rf
  subst e1
  subst e2
  refine G.same X 745 dL_law_638 (by decide) ?_
  exact next M2 _ _ _ _ ⟨hX, hY, hay, hIv, CSt.keep C1 hV.1.bn hB (fun x g1 g2 => O2 x (by omega)), K2⟩
set_option maxHeartbeats 1000000 in
theorem lc_21 {p : Program} {l : Launch} {e : Env} {s : State} {m : MethodId} {b : Nat} {below : List Frame} {meth : Method} {c : Code} {D : xD} {L : Nat} {xs : Nat → Int32} (X : Cx p s m meth c #[Value.ref b] code 4 RL ret D) (hxs : va_X b L xs s s.heap) (hbl : b < s.heap.size) (hL : L ≤ 2560) {a y sz i : Nat} {kd : xKd} {rf : xRf} {M : xM} {r : xR} {h : List xR} {sn : Option xR} {t : List Int} (hi : i + 5 ≤ L) (hI : LI a y kd rf M r h sn t) (next : ∀ (M' : xM) (r' : xR) (h' : List xR) (sn' : Option xR) (t' : List Int), LI a y kd rf M' r' h' sn' t' → LG p l e s m b below meth c D a y sz kd rf i M' 745) : LG p l e s m b below meth c D a y sz kd rf i M 643 := by
  obtain ⟨hX, hY, hay, hIv, hC, hM⟩ := id hI
  have hV := hIv.1.1
  have hB := hIv.cb
  refine G.aload_n X 644 dL_law_643 rfl rfl ?_
  refine G.aload_n X 645 dL_law_644 rfl rfl ?_
  refine G.iload_n X 646 dL_law_645 rfl rfl ?_
  refine G.iconst X 647 dL_law_646 rfl ?_
  refine G.iadd X 648 dL_law_647 rfl ?_
  refine G.sld (i := i + 1) X hxs hbl (Nat.le_refl _) 649 dL_law_648 rfl (by omega) (by omega) hL ?_
  refine G.vI1 (d := 6) X ml_L_102 yv_X5_needy 652 dL_law_649 rfl (c_X5_needy l D s.heap.size sz kd rf M a r h sn t (xs (i + 1)).toInt hX hV hB hC (ir_x _)) ⟨_, _, hX.1, rfl, rfl⟩ (by decide) ⟨Nat.le_of_ble_eq_true rfl, Nat.le_of_ble_eq_true rfl⟩ (Nat.le_of_ble_eq_true rfl) (fun q1 M1 h1 => ?_)
  obtain ⟨e1, C1, O1⟩ := h1
  have hM1 : MSt M1 y r h sn t := hM.keep (fun x g1 g2 => O1 x (by omega))
  have er : M1 (y + 1) = r := hM1.1
  refine G.aload_n X 653 dL_law_652 rfl rfl ?_
  refine G.aload_n X 654 dL_law_653 rfl rfl ?_
  refine G.iload_n X 655 dL_law_654 rfl rfl ?_
  refine G.iconst X 656 dL_law_655 rfl ?_
  refine G.iadd X 657 dL_law_656 rfl ?_
  refine G.sld (i := i + 1) X hxs hbl (Nat.le_refl _) 658 dL_law_657 rfl (by omega) (by omega) hL ?_
  refine G.vI1 (d := 3) X ml_L_105 yv_X6_needy 661 dL_law_658 rfl (c_X6_needy l D s.heap.size sz kd rf M1 y (xs (i + 1)).toInt hY (by rw [er]; exact hV.k) (ir_x _)) ⟨_, _, hY.1, rfl, rfl⟩ (by decide) ⟨Nat.le_of_ble_eq_true rfl, Nat.le_of_ble_eq_true rfl⟩ (Nat.le_of_ble_eq_true rfl) (fun q2 M2 h2 => ?_)
  rw [er] at h2
  obtain ⟨e2, em2⟩ := h2
  have K2 : MSt M2 y r h sn t := by rw [em2]; exact hM1
  have O2 : Off M1 M2 y 8 := by rw [em2]; exact Off.rf
  subst e1
  subst e2
  refine G.same X 745 dL_law_661 (by decide) ?_
  exact next M2 _ _ _ _ ⟨hX, hY, hay, hIv, CSt.keep C1 hV.1.bn hB (fun x g1 g2 => O2 x (by omega)), K2⟩
set_option maxHeartbeats 1000000 in
theorem lc_22 {p : Program} {l : Launch} {e : Env} {s : State} {m : MethodId} {b : Nat} {below : List Frame} {meth : Method} {c : Code} {D : xD} {L : Nat} {xs : Nat → Int32} (X : Cx p s m meth c #[Value.ref b] code 4 RL ret D) (hxs : va_X b L xs s s.heap) (hbl : b < s.heap.size) (hL : L ≤ 2560) {a y sz i : Nat} {kd : xKd} {rf : xRf} {M : xM} {r : xR} {h : List xR} {sn : Option xR} {t : List Int} (hi : i + 5 ≤ L) (hI : LI a y kd rf M r h sn t) (next : ∀ (M' : xM) (r' : xR) (h' : List xR) (sn' : Option xR) (t' : List Int), LI a y kd rf M' r' h' sn' t' → LG p l e s m b below meth c D a y sz kd rf i M' 745) : LG p l e s m b below meth c D a y sz kd rf i M 666 := by
  obtain ⟨hX, hY, hay, hIv, hC, hM⟩ := id hI
  have hV := hIv.1.1
  have hB := hIv.cb
  refine G.aload_n X 667 dL_law_666 rfl rfl ?_
  refine G.aload_n X 668 dL_law_667 rfl rfl ?_
  refine G.iload_n X 669 dL_law_668 rfl rfl ?_
  refine G.iconst X 670 dL_law_669 rfl ?_
  refine G.iadd X 671 dL_law_670 rfl ?_
  refine G.sld (i := i + 1) X hxs hbl (Nat.le_refl _) 672 dL_law_671 rfl (by omega) (by omega) hL ?_
  refine G.vI1 (d := 6) X ml_L_106 yv_X5_thirsty 675 dL_law_672 rfl (c_X5_thirsty l D s.heap.size sz kd rf M a r h sn t (xs (i + 1)).toInt hX hV hB hC (ir_x _)) ⟨_, _, hX.1, rfl, rfl⟩ (by decide) ⟨Nat.le_of_ble_eq_true rfl, Nat.le_of_ble_eq_true rfl⟩ (Nat.le_of_ble_eq_true rfl) (fun q1 M1 h1 => ?_)
  obtain ⟨e1, C1, O1⟩ := h1
  have hM1 : MSt M1 y r h sn t := hM.keep (fun x g1 g2 => O1 x (by omega))
  have er : M1 (y + 1) = r := hM1.1
  refine G.aload_n X 676 dL_law_675 rfl rfl ?_
  refine G.aload_n X 677 dL_law_676 rfl rfl ?_
  refine G.iload_n X 678 dL_law_677 rfl rfl ?_
  refine G.iconst X 679 dL_law_678 rfl ?_
  refine G.iadd X 680 dL_law_679 rfl ?_
  refine G.sld (i := i + 1) X hxs hbl (Nat.le_refl _) 681 dL_law_680 rfl (by omega) (by omega) hL ?_
  refine G.vI1 (d := 3) X ml_L_109 yv_X6_thirsty 684 dL_law_681 rfl (c_X6_thirsty l D s.heap.size sz kd rf M1 y (xs (i + 1)).toInt hY (by rw [er]; exact hV.k) (ir_x _)) ⟨_, _, hY.1, rfl, rfl⟩ (by decide) ⟨Nat.le_of_ble_eq_true rfl, Nat.le_of_ble_eq_true rfl⟩ (Nat.le_of_ble_eq_true rfl) (fun q2 M2 h2 => ?_)
  rw [er] at h2
  obtain ⟨e2, em2⟩ := h2
  have K2 : MSt M2 y r h sn t := by rw [em2]; exact hM1
  have O2 : Off M1 M2 y 8 := by rw [em2]; exact Off.rf
  subst e1
  subst e2
  refine G.same X 745 dL_law_684 (by decide) ?_
  exact next M2 _ _ _ _ ⟨hX, hY, hay, hIv, CSt.keep C1 hV.1.bn hB (fun x g1 g2 => O2 x (by omega)), K2⟩
set_option maxHeartbeats 1000000 in
theorem lc_23 {p : Program} {l : Launch} {e : Env} {s : State} {m : MethodId} {b : Nat} {below : List Frame} {meth : Method} {c : Code} {D : xD} {L : Nat} {xs : Nat → Int32} (X : Cx p s m meth c #[Value.ref b] code 4 RL ret D) (hxs : va_X b L xs s s.heap) (hbl : b < s.heap.size) (hL : L ≤ 2560) {a y sz i : Nat} {kd : xKd} {rf : xRf} {M : xM} {r : xR} {h : List xR} {sn : Option xR} {t : List Int} (hi : i + 5 ≤ L) (hI : LI a y kd rf M r h sn t) (next : ∀ (M' : xM) (r' : xR) (h' : List xR) (sn' : Option xR) (t' : List Int), LI a y kd rf M' r' h' sn' t' → LG p l e s m b below meth c D a y sz kd rf i M' 745) : LG p l e s m b below meth c D a y sz kd rf i M 689 := by
  obtain ⟨hX, hY, hay, hIv, hC, hM⟩ := id hI
  have hV := hIv.1.1
  have hB := hIv.cb
  refine G.aload_n X 690 dL_law_689 rfl rfl ?_
  refine G.aload_n X 691 dL_law_690 rfl rfl ?_
  refine G.iload_n X 692 dL_law_691 rfl rfl ?_
  refine G.iconst X 693 dL_law_692 rfl ?_
  refine G.iadd X 694 dL_law_693 rfl ?_
  refine G.sld (i := i + 1) X hxs hbl (Nat.le_refl _) 695 dL_law_694 rfl (by omega) (by omega) hL ?_
  refine G.aload_n X 696 dL_law_695 rfl rfl ?_
  refine G.iload_n X 697 dL_law_696 rfl rfl ?_
  refine G.iconst X 698 dL_law_697 rfl ?_
  refine G.iadd X 699 dL_law_698 rfl ?_
  refine G.sld (i := i + 2) X hxs hbl (Nat.le_refl _) 700 dL_law_699 rfl (by omega) (by omega) hL ?_
  refine G.vI2 (d := 6) X ml_L_110 yv_X5_forecast 703 dL_law_700 rfl (c_X5_forecast l D s.heap.size sz kd rf M a r h sn t (xs (i + 1)).toInt (xs (i + 2)).toInt hX hV hB hC (ir_x _) (ir_x _)) ⟨_, _, hX.1, rfl, rfl⟩ (by decide) ⟨Nat.le_of_ble_eq_true rfl, Nat.le_of_ble_eq_true rfl⟩ (Nat.le_of_ble_eq_true rfl) (fun q1 M1 h1 => ?_)
  obtain ⟨e1, C1, O1⟩ := h1
  have hM1 : MSt M1 y r h sn t := hM.keep (fun x g1 g2 => O1 x (by omega))
  have er : M1 (y + 1) = r := hM1.1
  refine G.aload_n X 704 dL_law_703 rfl rfl ?_
  refine G.aload_n X 705 dL_law_704 rfl rfl ?_
  refine G.iload_n X 706 dL_law_705 rfl rfl ?_
  refine G.iconst X 707 dL_law_706 rfl ?_
  refine G.iadd X 708 dL_law_707 rfl ?_
  refine G.sld (i := i + 1) X hxs hbl (Nat.le_refl _) 709 dL_law_708 rfl (by omega) (by omega) hL ?_
  refine G.aload_n X 710 dL_law_709 rfl rfl ?_
  refine G.iload_n X 711 dL_law_710 rfl rfl ?_
  refine G.iconst X 712 dL_law_711 rfl ?_
  refine G.iadd X 713 dL_law_712 rfl ?_
  refine G.sld (i := i + 2) X hxs hbl (Nat.le_refl _) 714 dL_law_713 rfl (by omega) (by omega) hL ?_
  refine G.vI2 (d := 5) X ml_L_113 yv_X6_forecast 717 dL_law_714 rfl (c_X6_forecast l D s.heap.size sz kd rf M1 y h sn t (xs (i + 1)).toInt (xs (i + 2)).toInt hY (by rw [er]; exact hV) (by rw [er]; exact hM1) (ir_x _) (ir_x _)) ⟨_, _, hY.1, rfl, rfl⟩ (by decide) ⟨Nat.le_of_ble_eq_true rfl, Nat.le_of_ble_eq_true rfl⟩ (Nat.le_of_ble_eq_true rfl) (fun q2 M2 h2 => ?_)
  rw [er] at h2
  obtain ⟨e2, K2, O2⟩ := h2
  subst e1
  subst e2
  refine G.same X 745 dL_law_717 (by decide) ?_
  exact next M2 _ _ _ _ ⟨hX, hY, hay, hIv, CSt.keep C1 hV.1.bn hB (fun x g1 g2 => O2 x (by omega)), K2⟩
set_option maxHeartbeats 1000000 in
theorem lc_24 {p : Program} {l : Launch} {e : Env} {s : State} {m : MethodId} {b : Nat} {below : List Frame} {meth : Method} {c : Code} {D : xD} {L : Nat} {xs : Nat → Int32} (X : Cx p s m meth c #[Value.ref b] code 4 RL ret D) (hxs : va_X b L xs s s.heap) (hbl : b < s.heap.size) (hL : L ≤ 2560) {a y sz i : Nat} {kd : xKd} {rf : xRf} {M : xM} {r : xR} {h : List xR} {sn : Option xR} {t : List Int} (hi : i + 5 ≤ L) (hI : LI a y kd rf M r h sn t) (next : ∀ (M' : xM) (r' : xR) (h' : List xR) (sn' : Option xR) (t' : List Int), LI a y kd rf M' r' h' sn' t' → LG p l e s m b below meth c D a y sz kd rf i M' 745) : LG p l e s m b below meth c D a y sz kd rf i M 722 := by
  obtain ⟨hX, hY, hay, hIv, hC, hM⟩ := id hI
  have hV := hIv.1.1
  have hB := hIv.cb
  refine G.aload_n X 723 dL_law_722 rfl rfl ?_
  refine G.aload_n X 724 dL_law_723 rfl rfl ?_
  refine G.iload_n X 725 dL_law_724 rfl rfl ?_
  refine G.iconst X 726 dL_law_725 rfl ?_
  refine G.iadd X 727 dL_law_726 rfl ?_
  refine G.sld (i := i + 1) X hxs hbl (Nat.le_refl _) 728 dL_law_727 rfl (by omega) (by omega) hL ?_
  refine G.vI1 (d := 6) X ml_L_114 yv_X5_count 731 dL_law_728 rfl (c_X5_count l D s.heap.size sz kd rf M a r h sn t (xs (i + 1)).toInt hX hV hB hC (ir_x _)) ⟨_, _, hX.1, rfl, rfl⟩ (by decide) ⟨Nat.le_of_ble_eq_true rfl, Nat.le_of_ble_eq_true rfl⟩ (Nat.le_of_ble_eq_true rfl) (fun q1 M1 h1 => ?_)
  obtain ⟨e1, C1, O1⟩ := h1
  have hM1 : MSt M1 y r h sn t := hM.keep (fun x g1 g2 => O1 x (by omega))
  have er : M1 (y + 1) = r := hM1.1
  refine G.aload_n X 732 dL_law_731 rfl rfl ?_
  refine G.aload_n X 733 dL_law_732 rfl rfl ?_
  refine G.iload_n X 734 dL_law_733 rfl rfl ?_
  refine G.iconst X 735 dL_law_734 rfl ?_
  refine G.iadd X 736 dL_law_735 rfl ?_
  refine G.sld (i := i + 1) X hxs hbl (Nat.le_refl _) 737 dL_law_736 rfl (by omega) (by omega) hL ?_
  refine G.vI1 (d := 3) X ml_L_117 yv_X6_count 740 dL_law_737 rfl (c_X6_count l D s.heap.size sz kd rf M1 y h sn t (xs (i + 1)).toInt hY (by rw [er]; exact hV.k) (by rw [er]; exact hM1) (ir_x _)) ⟨_, _, hY.1, rfl, rfl⟩ (by decide) ⟨Nat.le_of_ble_eq_true rfl, Nat.le_of_ble_eq_true rfl⟩ (Nat.le_of_ble_eq_true rfl) (fun q2 M2 h2 => ?_)
  rw [er] at h2
  obtain ⟨e2, em2⟩ := h2
  have K2 : MSt M2 y r h sn t := by rw [em2]; exact hM1
  have O2 : Off M1 M2 y 8 := by rw [em2]; exact Off.rf
  subst e1
  subst e2
  refine G.same X 745 dL_law_740 (by decide) ?_
  exact next M2 _ _ _ _ ⟨hX, hY, hay, hIv, CSt.keep C1 hV.1.bn hB (fun x g1 g2 => O2 x (by omega)), K2⟩
