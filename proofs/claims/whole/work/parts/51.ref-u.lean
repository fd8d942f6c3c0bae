theorem MSt.rd {M M1 : xM} {y : Nat} {r : xR} {h : List xR} {sn : Option xR} {t : List Int} (hM : MSt M y r h sn t) (h1 : RdF M M1 y 0) : MSt M1 y r h sn t ∧ Off M M1 y 8 := by
  refine ⟨hM.off (h1.1 _ (by omega) (by omega)) (h1.1 _ (by omega) (by omega)) (h1.1 _ (by omega) (by omega)) (h1.2.1 2 (by decide) (by decide)) (h1.2.1 4 (by decide) (by decide)) (h1.tx hM.2.2.2.2), fun a ha => h1.1 a (by omega) (by omega)⟩
theorem RdF.to0 {M M1 : xM} {y f : Nat} (h : RdF M M1 y f) : RdF M M1 y 0 := ⟨h.1, h.2.1, fun q hq => absurd hq (Nat.not_lt_zero q)⟩
def parM (t : List Int) (f u : Nat) (L : List (Int × Int × Int × Int)) : Option (List (Int × Int × Int × Int)) × Nat := match siteF t u with
  | (none, z) => (none, z)
  | (some s, z) => parL t (7 - f) z (L ++ [s])
theorem parM_none {t : List Int} {f u z : Nat} {L : List (Int × Int × Int × Int)} (h : siteF t u = (none, z)) : parM t f u L = (none, z) := by
  unfold parM
  rw [h]
theorem parM_stop {t : List Int} {f u z : Nat} {L : List (Int × Int × Int × Int)} {s : (Int × Int × Int × Int)} (h : siteF t u = (some s, z)) (hf : f < 7) (hz : z < t.length) (h9 : ¬ t.getD z 0 = 59) : parM t f u L = (none, z) := by
  unfold parM
  rw [h]
  dsimp only
  rw [show 7 - f = (6 - f) + 1 by omega, parL_s, if_pos hz, if_neg h9]
theorem parM_end {t : List Int} {f u z : Nat} {L : List (Int × Int × Int × Int)} {s : (Int × Int × Int × Int)} (h : siteF t u = (some s, z)) (hf : f < 7) (hz : ¬ z < t.length) : parM t f u L = (some (L ++ [s]), z) := by
  unfold parM
  rw [h]
  dsimp only
  rw [show 7 - f = (6 - f) + 1 by omega, parL_s, if_neg hz]
theorem parM_on {t : List Int} {f u z : Nat} {L : List (Int × Int × Int × Int)} {s : (Int × Int × Int × Int)} (h : siteF t u = (some s, z)) (hf : f < 7) (hz : z < t.length) (h9 : t.getD z 0 = 59) : parM t f u L = parM t (f + 1) (z + 1) (L ++ [s]) := by
  unfold parM
  rw [h]
  dsimp only
  rw [show 7 - f = (7 - (f + 1)) + 1 by omega, parL_s, if_pos hz, if_pos h9]
  rfl
theorem parF_M (t : List Int) : parF t = parM t 0 0 [] := rfl
theorem readF_none {t : List Int} {r : xR} {z : Nat} (h : parF t = (none, z)) : readF t r = (-100 - (z : Int), none) := by
  unfold readF
  rw [h]
theorem readF_bad {t : List Int} {r : xR} {z : Nat} {L : List (Int × Int × Int × Int)} (h : parF t = (some L, z)) (h1 : ¬ (L.all (hrsB r) = true)) : readF t r = (-2, none) := by
  unfold readF
  rw [h]
  dsimp only
  unfold readG
  rw [if_pos h1]
theorem readF_full {t : List Int} {r : xR} {z : Nat} {L : List (Int × Int × Int × Int)} (h : parF t = (some L, z)) (h1 : L.all (hrsB r) = true) (h2 : 12 < r 7 + (L.length : Int)) : readF t r = (-3, none) := by
  unfold readF
  rw [h]
  dsimp only
  unfold readG
  rw [if_neg (fun q => q h1), if_pos h2]
theorem readF_ok {t : List Int} {r : xR} {z : Nat} {L : List (Int × Int × Int × Int)} (h : parF t = (some L, z)) (h1 : L.all (hrsB r) = true) (h2 : ¬ 12 < r 7 + (L.length : Int)) : readF t r = ((L.length : Int), some (addL L r)) := by
  unfold readF
  rw [h]
  dsimp only
  unfold readG
  rw [if_neg (fun q => q h1), if_neg h2]
theorem ms_row9 {M : xM} {y q : Nat} {x : Int} : mu M y 9 x (y + 7) q = M (y + 7) q := mu_ne (Or.inl (by omega))
set_option maxHeartbeats 1000000 in
set_option maxRecDepth 100000 in
theorem c_X6_readSites (l : Launch) (D : xD) (Bs sz : Nat) (kd : xKd) (rf : xRf) (M : xM) (y : Nat) (h : List xR) (sn : Option xR) (t : List Int) (hY : ShY kd rf y) (hW : Vr (M (y + 1))) (hM : MSt M y (M (y + 1)) h sn t) : CtI l D Bs yX6_readSites cX6_readSites 4 (some .int) 3 [.ref y] sz kd rf M (fun q M' => q = (readF t (M (y + 1))).1 ∧ MSt M' y (actR (readF t (M (y + 1))).2 (M (y + 1))) (actH (readF t (M (y + 1))).2 (M (y + 1)) h) sn t ∧ Off M M' y 8) := by
  refine Ctr.of (yv_X6_readSites.1.2.2.2.2) (List.forall_mem_cons.mpr ⟨rfl, fun _ h => absurd h List.not_mem_nil⟩) (Nat.le_of_ble_eq_true rfl) [some (.ref y), none, none, none] rfl ?_
  intro p e s m args below meth c X hin
  have hV := hW.k
  obtain ⟨n6, n6b⟩ := hV.n6
  obtain ⟨n7, n7b⟩ := hV.n7
  obtain ⟨hv0, -, -, -, -, -⟩ := hV.1
  have L141 : ∀ (k : Nat) (i : Nat) (L : List (Int × Int × Int × Int)) (q : xR) (M1 M0 M2 : xM), i + k = L.length → L.length ≤ 8 → (∀ s ∈ L, SB s) → L.all (hrsB (M (y + 1))) = true → (M (y + 1)) 7 + (L.length : Int) ≤ 12 → readF t (M (y + 1)) = ((L.length : Int), some (addL L (M (y + 1)))) → addL (L.drop i) q = addL L (M (y + 1)) → Vk q → nC q = nC (M (y + 1)) + i → MSt M1 y (M (y + 1)) h sn t → Off M M1 y 8 → HiR M0 y ((M1 (y + 1) :: h).take 5) ∧ OfH M1 M0 y → M2 = ms M0 (y + 1) q → RqL M0 y L → M0 y 10 = (L.length : Int) → G p l e (rmd 3) s m args below meth c D Bs 4 0 0 (MQ below (xQ D Bs (pI sz kd rf (fun q M' => q = (readF t (M (y + 1))).1 ∧ MSt M' y (actR (readF t (M (y + 1))).2 (M (y + 1))) (actH (readF t (M (y + 1))).2 (M (y + 1)) h) sn t ∧ Off M M' y 8))) args s 0 0 (fun q => Bs ≤ q)) sz kd rf (M2) 141 [some (.ref y), none, some (vi (i : Int)), none] [] := by
    intro k
    induction k with
    | zero =>
      intro i L q M1 M0 M2 hik hL8 hSB hall h12 hF hres hVq eC hM1 hO1 hh0 hM2 hRq0 hlen0
      have hr2 : M2 (y + 1) = q := by rw [hM2, ms_same]
      have hl2 : M2 y 10 = (L.length : Int) := by rw [hM2, ms_ne (by omega)]; exact hlen0
      have hRq : RqL M2 y L := hRq0.mv (fun z _ => by rw [hM2, ms_ne (by omega)])
      refine G.iload_n X 142 dX6_readSites_141 rfl rfl ?_
      refine G.aload_n X 143 dX6_readSites_142 rfl rfl ?_
      refine G.getf (v := vi ((L.length : Int))) X fl_X6_146 146 dX6_readSites_143 rfl (hY).1 ((xV_int ((hY).2.1 10 (by decide))).trans (congrArg vi ?_)) ?_
      · exact hl2
      refine G.icmp_ge X 198 149 dX6_readSites_146 (by decide) rfl (by omega) (by omega) (fun hc146 => ?_) (fun hc146 => ?_)
      · refine G.aload_n X 199 dX6_readSites_198 rfl rfl ?_
        refine G.getf (v := vi ((L.length : Int))) X fl_X6_146 202 dX6_readSites_199 rfl (hY).1 ((xV_int ((hY).2.1 10 (by decide))).trans (congrArg vi ?_)) ?_
        · exact hl2
        refine G.iret X dX6_readSites_202 ⟨Nat.le_refl _, Nat.le_refl _⟩ ⟨rfl, rfl, rfl, _, rfl, ?_⟩
        rw [hF]
        rw [List.drop_eq_nil_of_le (by omega)] at hres
        obtain ⟨g1, g2⟩ := hM1.act hh0 q hM2
        have hq : q = addL L (M (y + 1)) := hres
        rw [hq] at g1
        exact ⟨rfl, g1, hO1.trans g2⟩
      · exfalso; omega
    | succ k ih =>
      intro i L q M1 M0 M2 hik hL8 hSB hall h12 hF hres hVq eC hM1 hO1 hh0 hM2 hRq0 hlen0
      have hr2 : M2 (y + 1) = q := by rw [hM2, ms_same]
      have hl2 : M2 y 10 = (L.length : Int) := by rw [hM2, ms_ne (by omega)]; exact hlen0
      have hRq : RqL M2 y L := hRq0.mv (fun z _ => by rw [hM2, ms_ne (by omega)])
      obtain ⟨s0, hs0⟩ : ∃ s0, L[i]? = some s0 := ⟨L[i]'(by omega), List.getElem?_eq_getElem (by omega)⟩
      obtain ⟨⟨b0, b1⟩, ⟨b2, b3⟩, ⟨b4, b5⟩, b6, b7⟩ := hSB s0 (List.mem_of_getElem? hs0)
      obtain ⟨l0, l1, l2, l3⟩ := hRq i s0 hs0
      refine G.iload_n X 142 dX6_readSites_141 rfl rfl ?_
      refine G.aload_n X 143 dX6_readSites_142 rfl rfl ?_
      refine G.getf (v := vi ((L.length : Int))) X fl_X6_146 146 dX6_readSites_143 rfl (hY).1 ((xV_int ((hY).2.1 10 (by decide))).trans (congrArg vi ?_)) ?_
      · exact hl2
      refine G.icmp_ge X 198 149 dX6_readSites_146 (by decide) rfl (by omega) (by omega) (fun hc146 => ?_) (fun hc146 => ?_)
      · exfalso; omega
      · refine G.aload_n X 150 dX6_readSites_149 rfl rfl ?_
        refine G.aload_n X 151 dX6_readSites_150 rfl rfl ?_
        refine G.getR X fl_X6_29 154 dX6_readSites_151 rfl (hY).1 (ShY.r11 hY) ?_
        refine G.iconst X 155 dX6_readSites_154 rfl ?_
        refine G.iload_n X 156 dX6_readSites_155 rfl rfl ?_
        refine G.imul X 157 dX6_readSites_156 rfl ?_
        refine G.iald X (i := (4 * i + 0)) 158 dX6_readSites_157 rfl ((ShY.a11 hY)).1 (((ShY.a11 hY)).2 _) (by omega) (by omega) (by decide) ?_
        rw [l0]
        refine G.aload_n X 159 dX6_readSites_158 rfl rfl ?_
        refine G.getR X fl_X6_29 162 dX6_readSites_159 rfl (hY).1 (ShY.r11 hY) ?_
        refine G.iconst X 163 dX6_readSites_162 rfl ?_
        refine G.iload_n X 164 dX6_readSites_163 rfl rfl ?_
        refine G.imul X 165 dX6_readSites_164 rfl ?_
        refine G.iconst X 166 dX6_readSites_165 rfl ?_
        refine G.iadd X 167 dX6_readSites_166 rfl ?_
        refine G.iald X (i := (4 * i + 1)) 168 dX6_readSites_167 rfl ((ShY.a11 hY)).1 (((ShY.a11 hY)).2 _) (by omega) (by omega) (by decide) ?_
        rw [l1]
        refine G.aload_n X 169 dX6_readSites_168 rfl rfl ?_
        refine G.getR X fl_X6_29 172 dX6_readSites_169 rfl (hY).1 (ShY.r11 hY) ?_
        refine G.iconst X 173 dX6_readSites_172 rfl ?_
        refine G.iload_n X 174 dX6_readSites_173 rfl rfl ?_
        refine G.imul X 175 dX6_readSites_174 rfl ?_
        refine G.iconst X 176 dX6_readSites_175 rfl ?_
        refine G.iadd X 177 dX6_readSites_176 rfl ?_
        refine G.iald X (i := (4 * i + 2)) 178 dX6_readSites_177 rfl ((ShY.a11 hY)).1 (((ShY.a11 hY)).2 _) (by omega) (by omega) (by decide) ?_
        rw [l2]
        refine G.aload_n X 179 dX6_readSites_178 rfl rfl ?_
        refine G.getR X fl_X6_29 182 dX6_readSites_179 rfl (hY).1 (ShY.r11 hY) ?_
        refine G.iconst X 183 dX6_readSites_182 rfl ?_
        refine G.iload_n X 184 dX6_readSites_183 rfl rfl ?_
        refine G.imul X 185 dX6_readSites_184 rfl ?_
        refine G.iconst X 186 dX6_readSites_185 rfl ?_
        refine G.iadd X 187 dX6_readSites_186 rfl ?_
        refine G.iald X (i := (4 * i + 3)) 188 dX6_readSites_187 rfl ((ShY.a11 hY)).1 (((ShY.a11 hY)).2 _) (by omega) (by omega) (by decide) ?_
        rw [l3]
        have hh := hrsB_iff.mp (List.all_eq_true.mp hall s0 (List.mem_of_getElem? hs0))
        refine G.vI4 (d := 1) X ml_X6_74 yv_X6_adds 191 dX6_readSites_188 rfl (c_X6_adds l D Bs _ kd rf _ y s0.1 s0.2.1 s0.2.2.1 s0.2.2.2 hY (by rw [hr2]; exact hVq) (by rw [hr2]; omega)) ⟨_, _, (hY).1, rfl, rfl⟩ (by decide) ⟨Nat.zero_le _, Nat.zero_le _⟩ (Nat.le_of_ble_eq_true rfl) (fun r188 M188 h188 => ?_)
        obtain ⟨hr188, hm188⟩ := h188
        rw [hr2] at hm188
        refine G.istore_n (ls' := [_, _, _, _]) X 192 dX6_readSites_191 rfl (by decide) rfl ?_
        refine G.iinc (ls' := [_, _, _, _]) X 195 dX6_readSites_192 rfl rfl (by decide) rfl ?_
        refine G.goto X 141 dX6_readSites_195 (by decide) ?_
        refine G.drop 3 ?_
        refine ih (i + 1) L (addSiteR q s0.1 s0.2.1 s0.2.2.1 s0.2.2.2) M1 M0 M188 (by omega) hL8 hSB hall h12 hF ?_ (Vb.addSite hVq (by decide) (by omega) ⟨b0, b1⟩ ⟨b2, b3⟩ (by omega) (by omega)) ?_ hM1 hO1 hh0 (by rw [hm188, hM2, ms_ms]) hRq0 hlen0
        · rw [← hres, List.drop_eq_getElem_cons (show i < L.length by omega), addL_s]
          have e : L[i]'(by omega) = s0 := by
            have := List.getElem?_eq_getElem (l := L) (i := i) (by omega)
            rw [hs0] at this
            exact (Option.some.inj this).symm
          rw [e]
        · rw [(addSiteR_n hVq.n7.1).1, eC]
          omega
  have L71 : ∀ (k : Nat) (i : Nat) (L : List (Int × Int × Int × Int)) (z : Nat) (M1 : xM), i + k = L.length → L.length ≤ 8 → parF t = (some L, z) → (∀ u s, u < i → L[u]? = some s → hrsB (M (y + 1)) s = true) → RdF M M1 y 0 → RqL M1 y L → M1 y 10 = (L.length : Int) → G p l e (rmd 3) s m args below meth c D Bs 4 0 0 (MQ below (xQ D Bs (pI sz kd rf (fun q M' => q = (readF t (M (y + 1))).1 ∧ MSt M' y (actR (readF t (M (y + 1))).2 (M (y + 1))) (actH (readF t (M (y + 1))).2 (M (y + 1)) h) sn t ∧ Off M M' y 8))) args s 0 0 (fun q => Bs ≤ q)) sz kd rf (M1) 71 [some (.ref y), none, some (vi (i : Int)), none] [] := by
    intro k
    induction k with
    | zero =>
      intro i L z M1 hik hL8 hpf hgd hRd hRq hlen1
      obtain ⟨hM1, hO1⟩ := hM.rd hRd
      have e1 : M1 (y + 1) = M (y + 1) := hRd.1 _ (by omega) (by omega)
      have hV1 : Vk (M1 (y + 1)) := by rw [e1]; exact hV
      have hSB := parF_ok hpf
      have hall : L.all (hrsB (M (y + 1))) = true := List.all_eq_true.mpr (fun s hs => by
        obtain ⟨u, hu⟩ := List.getElem?_of_mem hs
        exact hgd u s (by have := (List.getElem?_eq_some_iff.mp hu).1; omega) hu)
      refine G.iload_n X 72 dX6_readSites_71 rfl rfl ?_
      refine G.aload_n X 73 dX6_readSites_72 rfl rfl ?_
      refine G.getf (v := vi ((L.length : Int))) X fl_X6_146 76 dX6_readSites_73 rfl (hY).1 ((xV_int ((hY).2.1 10 (by decide))).trans (congrArg vi ?_)) ?_
      · exact hlen1
      refine G.icmp_ge X 115 79 dX6_readSites_76 (by decide) rfl (by omega) (by omega) (fun hc76 => ?_) (fun hc76 => ?_)
      · refine G.aload_n X 116 dX6_readSites_115 rfl rfl ?_
        refine G.getR X fl_X6_7 119 dX6_readSites_116 rfl (hY).1 (ShY.r0 hY) ?_
        refine G.bipush X 121 dX6_readSites_119 rfl (by decide) ?_
        refine G.iald X (i := 7) 122 dX6_readSites_121 rfl ((ShY.a0 hY)).1 (((ShY.a0 hY)).2 _) rfl (by omega) (by decide) ?_
        rw [e1]
        refine G.aload_n X 123 dX6_readSites_122 rfl rfl ?_
        refine G.getf (v := vi ((L.length : Int))) X fl_X6_146 126 dX6_readSites_123 rfl (hY).1 ((xV_int ((hY).2.1 10 (by decide))).trans (congrArg vi ?_)) ?_
        · exact hlen1
        refine G.iadd X 127 dX6_readSites_126 rfl ?_
        refine G.bipush X 129 dX6_readSites_127 rfl (by decide) ?_
        refine G.icmp_le X 135 132 dX6_readSites_129 (by decide) rfl (by omega) (by omega) (fun hc129 => ?_) (fun hc129 => ?_)
        · refine G.aload_n X 136 dX6_readSites_135 rfl rfl ?_
          refine G.vV0 (d := 0) X ml_X6_41 yv_X6_record 139 dX6_readSites_136 rfl (c_X6_record l D Bs _ kd rf _ y h hY hM1.2.1) ⟨_, _, (hY).1, rfl, rfl⟩ (by decide) ⟨Nat.zero_le _, Nat.zero_le _⟩ (Nat.le_of_ble_eq_true rfl) (fun M136 h136 => ?_)
          refine G.iconst X 140 dX6_readSites_139 rfl ?_
          refine G.istore_n (ls' := [_, _, _, _]) X 141 dX6_readSites_140 rfl (by decide) rfl ?_
          refine L141 L.length 0 L (M (y + 1)) M1 M136 M136 (Nat.zero_add _) hL8 hSB hall (by omega) (readF_ok hpf hall (by omega)) (by rw [List.drop_zero]) hV rfl hM1 hO1 h136 ?_ (hRq.mv (fun z _ => by rw [h136.2.1 _ (by omega) (by omega)])) ?_
          · rw [← e1, ← h136.2.1 _ (by omega) (by omega), ms_self]
          · rw [h136.2.2 10 (by decide)]
            exact hlen1
        · refine G.bipush X 134 dX6_readSites_132 rfl (by decide) ?_
          refine G.iret X dX6_readSites_134 ⟨Nat.le_refl _, Nat.le_refl _⟩ ⟨rfl, rfl, rfl, _, rfl, ?_⟩
          rw [readF_full hpf hall (by omega)]
          exact ⟨rfl, hM1, hO1⟩
      · exfalso; omega
    | succ k ih =>
      intro i L z M1 hik hL8 hpf hgd hRd hRq hlen1
      obtain ⟨hM1, hO1⟩ := hM.rd hRd
      have e1 : M1 (y + 1) = M (y + 1) := hRd.1 _ (by omega) (by omega)
      have hV1 : Vk (M1 (y + 1)) := by rw [e1]; exact hV
      have hSB := parF_ok hpf
      obtain ⟨s0, hs0⟩ : ∃ s0, L[i]? = some s0 := ⟨L[i]'(by omega), List.getElem?_eq_getElem (by omega)⟩
      obtain ⟨⟨b0, b1⟩, ⟨b2, b3⟩, ⟨b4, b5⟩, b6, b7⟩ := hSB s0 (List.mem_of_getElem? hs0)
      obtain ⟨l0, l1, l2, l3⟩ := hRq i s0 hs0
      refine G.iload_n X 72 dX6_readSites_71 rfl rfl ?_
      refine G.aload_n X 73 dX6_readSites_72 rfl rfl ?_
      refine G.getf (v := vi ((L.length : Int))) X fl_X6_146 76 dX6_readSites_73 rfl (hY).1 ((xV_int ((hY).2.1 10 (by decide))).trans (congrArg vi ?_)) ?_
      · exact hlen1
      refine G.icmp_ge X 115 79 dX6_readSites_76 (by decide) rfl (by omega) (by omega) (fun hc76 => ?_) (fun hc76 => ?_)
      · exfalso; omega
      · refine G.aload_n X 80 dX6_readSites_79 rfl rfl ?_
        refine G.aload_n X 81 dX6_readSites_80 rfl rfl ?_
        refine G.getR X fl_X6_29 84 dX6_readSites_81 rfl (hY).1 (ShY.r11 hY) ?_
        refine G.iconst X 85 dX6_readSites_84 rfl ?_
        refine G.iload_n X 86 dX6_readSites_85 rfl rfl ?_
        refine G.imul X 87 dX6_readSites_86 rfl ?_
        refine G.iconst X 88 dX6_readSites_87 rfl ?_
        refine G.iadd X 89 dX6_readSites_88 rfl ?_
        refine G.iald X (i := (4 * i + 2)) 90 dX6_readSites_89 rfl ((ShY.a11 hY)).1 (((ShY.a11 hY)).2 _) (by omega) (by omega) (by decide) ?_
        rw [l2]
        refine G.aload_n X 91 dX6_readSites_90 rfl rfl ?_
        refine G.getR X fl_X6_29 94 dX6_readSites_91 rfl (hY).1 (ShY.r11 hY) ?_
        refine G.iconst X 95 dX6_readSites_94 rfl ?_
        refine G.iload_n X 96 dX6_readSites_95 rfl rfl ?_
        refine G.imul X 97 dX6_readSites_96 rfl ?_
        refine G.iconst X 98 dX6_readSites_97 rfl ?_
        refine G.iadd X 99 dX6_readSites_98 rfl ?_
        refine G.iald X (i := (4 * i + 3)) 100 dX6_readSites_99 rfl ((ShY.a11 hY)).1 (((ShY.a11 hY)).2 _) (by omega) (by omega) (by decide) ?_
        rw [l3]
        refine G.vI2 (d := 1) X ml_X6_70 yv_X6_areHours 103 dX6_readSites_100 rfl (c_X6_areHours l D Bs _ kd rf _ y _ _ hY hV1 (by omega) (by omega)) ⟨_, _, (hY).1, rfl, rfl⟩ (by decide) ⟨Nat.zero_le _, Nat.zero_le _⟩ (Nat.le_of_ble_eq_true rfl) (fun r100 M100 h100 => ?_)
        obtain ⟨hr100, hm100⟩ := h100
        rw [e1] at hr100
        subst hr100
        obtain rfl := hm100.symm
        refine G.ifb_ne X 109 106 dX6_readSites_103 (by decide) rfl (fun hc103 => ?_) (fun hc103 => ?_)
        · refine G.iinc (ls' := [_, _, _, _]) X 112 dX6_readSites_109 rfl rfl (by decide) rfl ?_
          refine G.goto X 71 dX6_readSites_112 (by decide) ?_
          refine ih (i + 1) L z M1 (by omega) hL8 hpf (fun u s hu hs => ?_) hRd hRq hlen1
          by_cases e : u = i
          · subst e
            rw [hs0] at hs
            cases hs
            exact hrsB_iff.mpr (by omega)
          · exact hgd u s (by omega) hs
        · refine G.bipush X 108 dX6_readSites_106 rfl (by decide) ?_
          refine G.iret X dX6_readSites_108 ⟨Nat.le_refl _, Nat.le_refl _⟩ ⟨rfl, rfl, rfl, _, rfl, ?_⟩
          rw [readF_bad hpf (fun q => by have := hrsB_iff.mp (List.all_eq_true.mp q s0 (List.mem_of_getElem? hs0)); omega)]
          exact ⟨rfl, hM1, hO1⟩
  have L12z : ∀ (L : List (Int × Int × Int × Int)) (z : Nat) (M1 : xM), L.length ≤ 8 → parF t = (some L, z) → RdF M M1 y 0 → RqL M1 y L → M1 y 10 = (L.length : Int) → G p l e (rmd 3) s m args below meth c D Bs 4 0 0 (MQ below (xQ D Bs (pI sz kd rf (fun q M' => q = (readF t (M (y + 1))).1 ∧ MSt M' y (actR (readF t (M (y + 1))).2 (M (y + 1))) (actH (readF t (M (y + 1))).2 (M (y + 1)) h) sn t ∧ Off M M' y 8))) args s 0 0 (fun q => Bs ≤ q)) sz kd rf (M1) 12 [some (.ref y), some (vi 0), none, none] [] := by
    intro L z M1 hL8 hpf hRd hRq hlen1
    refine G.iload_n X 13 dX6_readSites_12 rfl rfl ?_
    refine G.if_eq X 69 16 dX6_readSites_13 (by decide) rfl (by omega) (fun hc13 => ?_) (fun hc13 => ?_)
    · refine G.iconst X 70 dX6_readSites_69 rfl ?_
      refine G.istore_n (ls' := [_, _, _, _]) X 71 dX6_readSites_70 rfl (by decide) rfl ?_
      refine G.drop 1 ?_
      exact L71 L.length 0 L z M1 (Nat.zero_add _) hL8 hpf (fun u s hu => absurd hu (Nat.not_lt_zero u)) hRd hRq hlen1
    · exact absurd hc13 (by decide)
  have L12 : ∀ (k : Nat) (f u : Nat) (L : List (Int × Int × Int × Int)) (M1 : xM), f + k = 8 → L.length = f → parF t = parM t f u L → 8 * f ≤ u → u ≤ t.length → RdF M M1 y 0 → RqL M1 y L → M1 y 9 = (u : Int) → M1 y 10 = (f : Int) → G p l e (rmd 3) s m args below meth c D Bs 4 0 0 (MQ below (xQ D Bs (pI sz kd rf (fun q M' => q = (readF t (M (y + 1))).1 ∧ MSt M' y (actR (readF t (M (y + 1))).2 (M (y + 1))) (actH (readF t (M (y + 1))).2 (M (y + 1)) h) sn t ∧ Off M M' y 8))) args s 0 0 (fun q => Bs ≤ q)) sz kd rf (M1) 12 [some (.ref y), some (vi 1), none, none] [] := by
    intro k
    induction k with
    | zero =>
      intro f u L M1 hfk hLf hp0 hu8 hul hRd hRq hp9 hp10
      have hT1 : TxM M1 y t := hRd.tx hM.2.2.2.2
      have htl := hT1.1.2
      exfalso
      omega
    | succ k ih =>
      intro f u L M1 hfk hLf hp0 hu8 hul hRd hRq hp9 hp10
      have hT1 : TxM M1 y t := hRd.tx hM.2.2.2.2
      have htl := hT1.1.2
      refine G.iload_n X 13 dX6_readSites_12 rfl rfl ?_
      refine G.if_eq X 69 16 dX6_readSites_13 (by decide) rfl (by omega) (fun hc13 => ?_) (fun hc13 => ?_)
      · exact absurd hc13 (by decide)
      · refine G.aload_n X 17 dX6_readSites_16 rfl rfl ?_
        refine G.vI0 (d := 2) X ml_X6_156 yv_X6_readsSite 20 dX6_readSites_17 rfl (c_X6_readsSite l D Bs _ kd rf _ y u f t hY hT1 hp9 (by omega) hp10 (by omega)) ⟨_, _, (hY).1, rfl, rfl⟩ (by decide) ⟨Nat.zero_le _, Nat.zero_le _⟩ (Nat.le_of_ble_eq_true rfl) (fun r17 M17 h17 => ?_)
        rcases h17 with ⟨z17, hs17, hr17, h9, hR17⟩ | ⟨s17, z17, hs17, hr17, ⟨h9, h10⟩, hq17, hR17⟩
        · subst hr17
          obtain ⟨hM2, hO2⟩ := hM.rd (hRd.trans0 hR17)
          have hpe : parF t = (none, z17) := hp0.trans (parM_none hs17)
          refine G.if_ne X 31 23 dX6_readSites_20 (by decide) rfl (by omega) (fun hc20 => ?_) (fun hc20 => ?_)
          · exact absurd hc20 (by decide)
          · refine G.bipush X 25 dX6_readSites_23 rfl (by decide) ?_
            refine G.aload_n X 26 dX6_readSites_25 rfl rfl ?_
            refine G.getf (v := vi ((z17 : Int))) X fl_X6_143 29 dX6_readSites_26 rfl (hY).1 ((xV_int ((hY).2.1 9 (by decide))).trans (congrArg vi ?_)) ?_
            · exact h9
            refine G.isub X 30 dX6_readSites_29 rfl ?_
            refine G.iret X dX6_readSites_30 ⟨Nat.le_refl _, Nat.le_refl _⟩ ⟨rfl, rfl, rfl, _, rfl, ?_⟩
            first
              | (rw [readF_none hpe]; exact ⟨rfl, hM2, hO2⟩)
              | (rw [readF_none (hp0.trans (parM_stop hs17 (by omega) (by omega) (by omega)))]; exact ⟨rfl, hM2, hO2⟩)
        · subst hr17
          obtain ⟨hz1, hz2⟩ := siteF_pos hs17
          have hpe := True.intro
          obtain ⟨hM2, hO2⟩ := hM.rd (hRd.trans0 hR17)
          have hT2 : TxM M17 y t := hR17.tx hT1
          have hq17 : RqL M17 y (L ++ [s17]) := by
            have g := (hRq.mv (fun z hz => hR17.2.2 z (by omega))).add (s := s17) (by rw [hLf]; exact hq17)
            exact g
          refine G.ifb_ne X 31 23 dX6_readSites_20 (by decide) rfl (fun hc20 => ?_) (fun hc20 => ?_)
          · refine G.aload_n X 32 dX6_readSites_31 rfl rfl ?_
            refine G.getf (v := vi ((z17 : Int))) X fl_X6_143 35 dX6_readSites_32 rfl (hY).1 ((xV_int ((hY).2.1 9 (by decide))).trans (congrArg vi ?_)) ?_
            · exact h9
            refine G.aload_n X 36 dX6_readSites_35 rfl rfl ?_
            refine G.getf (v := vi ((t.length : Int))) X fl_X6_140 39 dX6_readSites_36 rfl (hY).1 ((xV_int ((hY).2.1 7 (by decide))).trans (congrArg vi ?_)) ?_
            · exact hT2.1.1
            refine G.icmp_ge X 46 42 dX6_readSites_39 (by decide) rfl (by omega) (by omega) (fun hc39 => ?_) (fun hc39 => ?_)
            · refine G.iconst X 47 dX6_readSites_46 rfl ?_
              refine G.istore_n (ls' := [_, _, _, _]) X 48 dX6_readSites_47 rfl (by decide) rfl ?_
              refine G.aload_n X 49 dX6_readSites_48 rfl rfl ?_
              refine G.dup X 50 dX6_readSites_49 rfl rfl ?_
              refine G.getf (v := vi ((z17 : Int))) X fl_X6_143 53 dX6_readSites_50 rfl (hY).1 ((xV_int ((hY).2.1 9 (by decide))).trans (congrArg vi ?_)) ?_
              · exact h9
              refine G.iload_n X 54 dX6_readSites_53 rfl rfl ?_
              refine G.if_eq X 61 57 dX6_readSites_54 (by decide) rfl (by omega) (fun hc54 => ?_) (fun hc54 => ?_)
              · refine G.iconst X 62 dX6_readSites_61 rfl ?_
                refine G.iadd X 63 dX6_readSites_62 rfl ?_
                refine G.putI X fl_X6_143 fi_6_9 rfl 66 dX6_readSites_63 rfl (hY).1 ((hY).2.1 9 (by decide)) ?_
                refine G.goto X 12 dX6_readSites_66 (by decide) ?_
                refine L12z (L ++ [s17]) z17 _ ?_ (hp0.trans (parM_end hs17 (by omega) (by omega))) (hRd.trans0 (hR17.p9)) (hq17.mv (fun z _ => ms_row9)) ((mu_ne (Or.inr (by decide))).trans (h10.trans ?_))
                · rw [List.length_append]
                  show L.length + 1 ≤ 8
                  omega
                · rw [List.length_append, hLf]
                  rfl
              · exact absurd hc54 (by decide)
            · refine G.iconst X 43 dX6_readSites_42 rfl ?_
              refine G.goto X 47 dX6_readSites_43 (by decide) ?_
              refine G.istore_n (ls' := [_, _, _, _]) X 48 dX6_readSites_47 rfl (by decide) rfl ?_
              refine G.aload_n X 49 dX6_readSites_48 rfl rfl ?_
              refine G.dup X 50 dX6_readSites_49 rfl rfl ?_
              refine G.getf (v := vi ((z17 : Int))) X fl_X6_143 53 dX6_readSites_50 rfl (hY).1 ((xV_int ((hY).2.1 9 (by decide))).trans (congrArg vi ?_)) ?_
              · exact h9
              refine G.iload_n X 54 dX6_readSites_53 rfl rfl ?_
              refine G.if_eq X 61 57 dX6_readSites_54 (by decide) rfl (by omega) (fun hc54 => ?_) (fun hc54 => ?_)
              · exact absurd hc54 (by decide)
              · refine G.iconst X 58 dX6_readSites_57 rfl ?_
                refine G.goto X 62 dX6_readSites_58 (by decide) ?_
                refine G.iadd X 63 dX6_readSites_62 rfl ?_
                refine G.putI X fl_X6_143 fi_6_9 rfl 66 dX6_readSites_63 rfl (hY).1 ((hY).2.1 9 (by decide)) ?_
                refine G.goto X 12 dX6_readSites_66 (by decide) ?_
                refine ih (f + 1) (z17 + 1) (L ++ [s17]) _ (by omega) ?_ (hp0.trans (parM_on hs17 (by omega) (by omega) (by omega))) (by omega) (by omega) (hRd.trans0 (hR17.p9)) (hq17.mv (fun z _ => ms_row9)) (mu_same.trans (by omega)) ((mu_ne (Or.inr (by decide))).trans h10)
                rw [List.length_append, hLf]
                rfl
          · refine G.bipush X 25 dX6_readSites_23 rfl (by decide) ?_
            refine G.aload_n X 26 dX6_readSites_25 rfl rfl ?_
            refine G.getf (v := vi ((z17 : Int))) X fl_X6_143 29 dX6_readSites_26 rfl (hY).1 ((xV_int ((hY).2.1 9 (by decide))).trans (congrArg vi ?_)) ?_
            · exact h9
            refine G.isub X 30 dX6_readSites_29 rfl ?_
            refine G.iret X dX6_readSites_30 ⟨Nat.le_refl _, Nat.le_refl _⟩ ⟨rfl, rfl, rfl, _, rfl, ?_⟩
            first
              | (rw [readF_none hpe]; exact ⟨rfl, hM2, hO2⟩)
              | (rw [readF_none (hp0.trans (parM_stop hs17 (by omega) (by omega) (by omega)))]; exact ⟨rfl, hM2, hO2⟩)
  refine G.aload_n X 1 dX6_readSites_0 rfl rfl ?_
  refine G.iconst X 2 dX6_readSites_1 rfl ?_
  refine G.putI X fl_X6_143 fi_6_9 rfl 5 dX6_readSites_2 rfl (hY).1 ((hY).2.1 9 (by decide)) ?_
  refine G.aload_n X 6 dX6_readSites_5 rfl rfl ?_
  refine G.iconst X 7 dX6_readSites_6 rfl ?_
  refine G.putI X fl_X6_146 fi_6_10 rfl 10 dX6_readSites_7 rfl (hY).1 ((hY).2.1 10 (by decide)) ?_
  refine G.iconst X 11 dX6_readSites_10 rfl ?_
  refine G.istore_n (ls' := [_, _, _, _]) X 12 dX6_readSites_11 rfl (by decide) rfl ?_
  exact L12 8 0 0 [] _ rfl rfl (parF_M t) (Nat.zero_le _) (Nat.zero_le _) (RdF.p10 (RdF.p9 RdF.rf)) (fun j s hj => by simp at hj) ((mu_ne (Or.inr (by decide))).trans mu_same) mu_same
