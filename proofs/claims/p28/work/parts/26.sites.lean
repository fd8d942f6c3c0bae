theorem numL_ge (t : List Int) : ∀ (k : Nat) (v : Int) (p : Nat), 0 ≤ v → v ≤ (numL t k v p).1
  | 0, v, p, _ => Int.le_refl v
  | k + 1, v, p, h => by
    rw [numL_s]
    by_cases hd : isDg t p 48
    · rw [if_pos hd]
      have := numL_ge t k (10 * v + (t.getD p 0 - 48)) (p + 1) (by omega)
      omega
    · rw [if_neg hd]
      exact Int.le_refl v
theorem numF_val {t : List Int} {lo : Int} {dg p : Nat} (hl : 48 ≤ lo) (hd : 1 ≤ dg ∧ dg ≤ 3) (h : (numF t lo dg p).1 ≠ -1) : lo - 48 ≤ (numF t lo dg p).1 ∧ (numF t lo dg p).1 ≤ 999 ∧ (dg ≤ 2 → (numF t lo dg p).1 ≤ 99) ∧ (dg ≤ 1 → (numF t lo dg p).1 ≤ 9) := by
  unfold numF at h ⊢
  by_cases hdg : isDg t p lo
  · rw [if_pos hdg] at h ⊢
    have g := numL_rng t (if t.getD p 0 - 48 = 0 then 0 else dg - 1) (t.getD p 0 - 48) (p + 1) 10 (by omega)
    have g2 := numL_ge t (if t.getD p 0 - 48 = 0 then 0 else dg - 1) (t.getD p 0 - 48) (p + 1) (by omega)
    have hk : (if t.getD p 0 - 48 = 0 then 0 else dg - 1) ≤ dg - 1 := by
      split
      · omega
      · omega
    generalize (if t.getD p 0 - 48 = 0 then 0 else dg - 1) = k at g g2 hk ⊢
    obtain ⟨v, hv⟩ : ∃ v, t.getD p 0 - 48 = v := ⟨_, rfl⟩
    have hd1 := hdg.2.1
    have hd2 := hdg.2.2
    rw [hv] at g g2 ⊢
    rcases (by omega : k = 0 ∨ k = 1 ∨ k = 2) with e | e | e <;> subst e <;> simp at g g2 ⊢ <;> omega
  · rw [if_neg hdg] at h
    exact absurd rfl h
def SB (s : Int × Int × Int × Int) : Prop := (1 ≤ s.1 ∧ s.1 ≤ 9) ∧ (1 ≤ s.2.1 ∧ s.2.1 ≤ 99) ∧ (0 ≤ s.2.2.1 ∧ s.2.2.1 ≤ 999) ∧ (0 ≤ s.2.2.2 ∧ s.2.2.2 ≤ 999)
theorem siteF_ok {t : List Int} {u z : Nat} {s : Int × Int × Int × Int} (h : siteF t u = (some s, z)) : SB s := by
  unfold siteF at h
  repeat' split at h
  all_goals first
    | (simp at h; done)
    | (rename_i a1 a2 a3 a4 a5 a6 a7
       have g1 := numF_val (by decide) (by decide) a1
       have g3 := numF_val (by decide) (by decide) a3
       have g5 := numF_val (by decide) (by decide) a5
       have g7 := numF_val (by decide) (by decide) a7
       have e := Option.some.inj (congrArg Prod.fst h)
       rw [← e]
       unfold SB
       dsimp only
       omega)
theorem parL_ok {t : List Int} : ∀ (n p : Nat) (L : List (Int × Int × Int × Int)) (L' : List (Int × Int × Int × Int)) (z : Nat), (∀ s ∈ L, SB s) → parL t n p L = (some L', z) → ∀ s ∈ L', SB s
  | 0, p, L, L', z, hL, h => by
    cases h
    exact hL
  | n + 1, p, L, L', z, hL, h => by
    rw [parL_s] at h
    split at h
    · split at h
      · split at h
        · cases h
        · rename_i s q hs
          refine parL_ok n q (L ++ [s]) L' z (fun x hx => ?_) h
          rcases List.mem_append.mp hx with e | e
          · exact hL x e
          · rw [List.mem_singleton.mp e]
            exact siteF_ok hs
      · cases h
    · cases h
      exact hL
theorem parF_ok {t : List Int} {L : List (Int × Int × Int × Int)} {z : Nat} (h : parF t = (some L, z)) : ∀ s ∈ L, SB s := by
  unfold parF at h
  split at h
  · cases h
  · rename_i s q hs
    exact parL_ok 7 q [s] L z (fun x hx => by rw [List.mem_singleton.mp hx]; exact siteF_ok hs) h
def hrsB (r : xR) (s : Int × Int × Int × Int) : Bool := decide (0 ≤ s.2.2.1 ∧ s.2.2.1 ≤ 998 ∧ s.2.2.1 < s.2.2.2 ∧ r 0 < s.2.2.2 ∧ s.2.2.2 ≤ 999)
theorem hrsB_iff {r : xR} {s : Int × Int × Int × Int} : hrsB r s = true ↔ 0 ≤ s.2.2.1 ∧ s.2.2.1 ≤ 998 ∧ s.2.2.1 < s.2.2.2 ∧ r 0 < s.2.2.2 ∧ s.2.2.2 ≤ 999 := by
  unfold hrsB
  exact decide_eq_true_iff
def addL : List (Int × Int × Int × Int) → xR → xR
  | [], r => r
  | s :: L, r => addL L (addSiteR r s.1 s.2.1 s.2.2.1 s.2.2.2)
theorem addL_s (s : Int × Int × Int × Int) (L : List (Int × Int × Int × Int)) (r : xR) : addL (s :: L) r = addL L (addSiteR r s.1 s.2.1 s.2.2.1 s.2.2.2) := rfl
def readG (L : List (Int × Int × Int × Int)) (r : xR) : Int × Option xR := if ¬ (L.all (hrsB r) = true) then (-2, none) else if 12 < r 7 + (L.length : Int) then (-3, none) else ((L.length : Int), some (addL L r))
def readF (t : List Int) (r : xR) : Int × Option xR := match parF t with
  | (none, z) => (-100 - (z : Int), none)
  | (some L, _) => readG L r
theorem Vb.addSite {r : xR} {w d x0 x1 x2 x3 : Int} (h : Vb r w d) (hd : 0 ≤ d) (hn : nC r < 12) (h0 : 1 ≤ x0 ∧ x0 ≤ 9) (h1 : 1 ≤ x1 ∧ x1 ≤ 99) (h2 : 0 ≤ x2 ∧ x2 ≤ 998) (h3 : 1 ≤ x3 ∧ x3 ≤ 999) : Vb (addSiteR r x0 x1 x2 x3) w d := by
  obtain ⟨n6, n6b⟩ := h.n6
  obtain ⟨n7, n7b⟩ := h.n7
  obtain ⟨a1, a2, a3⟩ := addSiteR_n (x0 := x0) (x1 := x1) (x2 := x2) (x3 := x3) n7
  have e0 : ∀ k, k < 16 → k ≠ 7 → addSiteR r x0 x1 x2 x3 k = r k := fun k hk h7 => addSiteR_0 hk h7
  refine ⟨?_, fun i hi => ?_, fun i hi => ?_⟩
  · rw [e0 0 (by decide) (by decide), e0 1 (by decide) (by decide), e0 2 (by decide) (by decide), e0 3 (by decide) (by decide), e0 6 (by decide) (by decide), a3]
    have g := h.1
    omega
  · rw [a2] at hi
    have g := h.2.1 i hi
    have e : ∀ k, k < 10 → fS (addSiteR r x0 x1 x2 x3) i k = fS r i k := fun k hk => addSiteR_S (by omega) hk
    unfold Vset at g ⊢
    rw [e 0 (by decide), e 1 (by decide), e 2 (by decide), e 3 (by decide), e 4 (by decide), e 5 (by decide), e 6 (by decide), e 7 (by decide), a3]
    omega
  · rw [a1] at hi
    by_cases hin : i = nC r
    · subst hin
      obtain ⟨g0, g1, g2, g3, g4, g5, g6, g7, g8⟩ := addSiteR_N r x0 x1 x2 x3
      unfold Vsite
      rw [g0, g1, g2, g3, g4, g6, g8, e0 6 (by decide) (by decide)]
      omega
    · have g := h.2.2 i (by omega)
      have e : ∀ k, k < 10 → fC (addSiteR r x0 x1 x2 x3) i k = fC r i k := fun k hk => addSiteR_C (by omega) hk
      unfold Vsite at g ⊢
      rw [e 0 (by decide), e 1 (by decide), e 2 (by decide), e 3 (by decide), e 4 (by decide), e 6 (by decide), e 8 (by decide), e0 6 (by decide) (by decide)]
      exact g
set_option maxHeartbeats 1000000 in
set_option maxRecDepth 100000 in
theorem c_X5_readSites (l : Launch) (D : xD) (Bs sz : Nat) (kd : xKd) (rf : xRf) (M : xM) (a : Nat) (r : xR) (h : List xR) (sn : Option xR) (t : List Int) (hX : ShX kd rf a) (hV : Vr r) (hB : CB h sn) (hC : CSt M a r h sn t) : CtI l D Bs yX5_readSites cX5_readSites 3 (some .int) 4 [.ref a] sz kd rf M (fun q M' => q = (readF t r).1 ∧ CSt M' a (actR (readF t r).2 r) (actH (readF t r).2 r h) sn t ∧ Off M M' a 215) := by
  refine Ctr.of (yv_X5_readSites.1.2.2.2.2) (List.forall_mem_cons.mpr ⟨rfl, fun _ h => absurd h List.not_mem_nil⟩) (Nat.le_of_ble_eq_true rfl) [some (.ref a), none, none] rfl ?_
  intro p e s m args below meth c X hin
  obtain ⟨hM, ⟨o, hho⟩, hsnf, hsn, htx⟩ := id hC
  have hVk := hV.k
  obtain ⟨n6, n6b⟩ := hV.1.n6
  obtain ⟨n7, n7b⟩ := hV.1.n7
  obtain ⟨hv0, hv1, hv2, hv3, hv6, hv7⟩ := hV.1.1
  obtain ⟨hb0, hb1, hb2, hb3, -, -, -, hb7, hb8⟩ := hM.1
  have L113 : ∀ (k : Nat) (i : Nat) (L : List (Int × Int × Int × Int)) (q : xR) (M2 : xM), i + k = L.length → L.length ≤ 8 → (∀ s ∈ L, SB s) → (L.all (hrsB r) = true) → r 7 + (L.length : Int) ≤ 12 → (∀ v, readF t r = v → v = ((L.length : Int), some (addL L r))) → addL (L.drop i) q = addL L r → Vk q → nC q = nC r + i → CSt M2 a q ((r :: h).take 5) sn t → M2 (a + 203) 3 = (L.length : Int) → LnS M2 (a + 203) L → Off M M2 a 215 → G p l e (rmd 4) s m args below meth c D Bs 3 0 0 (MQ below (xQ D Bs (pI sz kd rf (fun q M' => q = (readF t r).1 ∧ CSt M' a (actR (readF t r).2 r) (actH (readF t r).2 r h) sn t ∧ Off M M' a 215))) args s 0 0 (fun q => Bs ≤ q)) sz kd rf (M2) 113 [some (.ref a), some (vi (i : Int)), none] [] := by
    intro k
    induction k with
    | zero =>
      intro i L q M2 hik hL8 hSB hall h12 hF hres hVq eC hCi hf hLn hO
      refine G.iload_n X 114 dX5_readSites_113 rfl rfl ?_
      refine G.aload_n X 115 dX5_readSites_114 rfl rfl ?_
      refine G.getR X fl_X5_36 118 dX5_readSites_115 rfl (hX).1 (ShX.r5 hX) ?_
      refine G.getf (v := vi ((L.length : Int))) X fl_X5_188 121 dX5_readSites_118 rfl ((ShX.text hX)).1 ((xV_int (((ShX.text hX)).2.2.2.1 3 (by decide))).trans (congrArg vi ?_)) ?_
      · exact hf
      refine G.icmp_ge X 164 124 dX5_readSites_121 (by decide) rfl (by omega) (by omega) (fun hc121 => ?_) (fun hc121 => ?_)
      · refine G.aload_n X 165 dX5_readSites_164 rfl rfl ?_
        refine G.getR X fl_X5_36 168 dX5_readSites_165 rfl (hX).1 (ShX.r5 hX) ?_
        refine G.getf (v := vi ((L.length : Int))) X fl_X5_188 171 dX5_readSites_168 rfl ((ShX.text hX)).1 ((xV_int (((ShX.text hX)).2.2.2.1 3 (by decide))).trans (congrArg vi ?_)) ?_
        · exact hf
        refine G.iret X dX5_readSites_171 ⟨Nat.le_refl _, Nat.le_refl _⟩ ⟨rfl, rfl, rfl, _, rfl, ?_⟩
        rw [hF _ rfl]
        rw [List.drop_eq_nil_of_le (by omega)] at hres
        rw [← hres]
        exact ⟨rfl, hCi, hO⟩
      · exfalso; omega
    | succ k ih =>
      intro i L q M2 hik hL8 hSB hall h12 hF hres hVq eC hCi hf hLn hO
      refine G.iload_n X 114 dX5_readSites_113 rfl rfl ?_
      refine G.aload_n X 115 dX5_readSites_114 rfl rfl ?_
      refine G.getR X fl_X5_36 118 dX5_readSites_115 rfl (hX).1 (ShX.r5 hX) ?_
      refine G.getf (v := vi ((L.length : Int))) X fl_X5_188 121 dX5_readSites_118 rfl ((ShX.text hX)).1 ((xV_int (((ShX.text hX)).2.2.2.1 3 (by decide))).trans (congrArg vi ?_)) ?_
      · exact hf
      refine G.icmp_ge X 164 124 dX5_readSites_121 (by decide) rfl (by omega) (by omega) (fun hc121 => ?_) (fun hc121 => ?_)
      · exfalso; omega
      · refine G.aload_n X 125 dX5_readSites_124 rfl rfl ?_
        obtain ⟨s0, hs0⟩ : ∃ s0, L[i]? = some s0 := ⟨L[i]'(by omega), List.getElem?_eq_getElem (by omega)⟩
        have hsb := hSB s0 (List.mem_of_getElem? hs0)
        obtain ⟨⟨b0, b1⟩, ⟨b2, b3⟩, ⟨b4, b5⟩, b6, b7⟩ := hsb
        obtain ⟨l0, l1, l2, l3⟩ := hLn i s0 hs0
        refine G.getR X fl_X5_36 128 dX5_readSites_125 rfl (hX).1 (ShX.r5 hX) ?_
        refine G.getR X fl_X5_191 131 dX5_readSites_128 rfl ((ShX.text hX)).1 ((ShX.text hX)).2.2.1 ?_
        refine G.iload_n X 132 dX5_readSites_131 rfl rfl ?_
        refine G.aald X 133 dX5_readSites_132 rfl (ShT.kl (ShX.text hX)) (by decide) (ShT.rl (ShX.text hX) (by omega)) rfl (by omega) (by decide) ?_
        refine G.astore_n (ls' := [_, _, _]) X 134 dX5_readSites_133 rfl (by decide) rfl ?_
        refine G.aload_n X 135 dX5_readSites_134 rfl rfl ?_
        refine G.getR X fl_X5_10 138 dX5_readSites_135 rfl (hX).1 (ShX.r0 hX) ?_
        refine G.aload_n X 139 dX5_readSites_138 rfl rfl ?_
        refine G.getf (v := vi (s0.1)) X fl_X5_197 142 dX5_readSites_139 rfl (ShT.l (ShX.text hX) (by omega)).1 ((xV_int ((ShT.l (ShX.text hX) (by omega)).2 0)).trans (congrArg vi ?_)) ?_
        · exact l0
        refine G.aload_n X 143 dX5_readSites_142 rfl rfl ?_
        refine G.getf (v := vi (s0.2.1)) X fl_X5_134 146 dX5_readSites_143 rfl (ShT.l (ShX.text hX) (by omega)).1 ((xV_int ((ShT.l (ShX.text hX) (by omega)).2 1)).trans (congrArg vi ?_)) ?_
        · exact l1
        refine G.aload_n X 147 dX5_readSites_146 rfl rfl ?_
        refine G.getf (v := vi (s0.2.2.1)) X fl_X5_194 150 dX5_readSites_147 rfl (ShT.l (ShX.text hX) (by omega)).1 ((xV_int ((ShT.l (ShX.text hX) (by omega)).2 2)).trans (congrArg vi ?_)) ?_
        · exact l2
        refine G.aload_n X 151 dX5_readSites_150 rfl rfl ?_
        refine G.getf (v := vi (s0.2.2.2)) X fl_X5_128 154 dX5_readSites_151 rfl (ShT.l (ShX.text hX) (by omega)).1 ((xV_int ((ShT.l (ShX.text hX) (by omega)).2 3)).trans (congrArg vi ?_)) ?_
        · exact l3
        have hh := hrsB_iff.mp (List.all_eq_true.mp hall s0 (List.mem_of_getElem? hs0))
        refine G.vI4 (d := 1) X ml_X5_110 yv_X4_appendSite 157 dX5_readSites_154 rfl (c_X4_appendSite l D Bs _ kd rf _ (a + 1) s0.1 s0.2.1 s0.2.2.1 s0.2.2.2 q ((ShX.now hX)) hVq hCi.1 (by omega)) ⟨_, _, ((ShX.now hX)).1, rfl, rfl⟩ (by decide) ⟨Nat.zero_le _, Nat.zero_le _⟩ (Nat.le_of_ble_eq_true rfl) (fun r154 M154 h154 => ?_)
        refine G.pop X 158 dX5_readSites_157 rfl rfl ?_
        refine G.iinc (ls' := [_, _, _]) X 161 dX5_readSites_158 rfl rfl (by decide) rfl ?_
        refine G.goto X 113 dX5_readSites_161 (by decide) ?_
        refine G.drop 2 ?_
        refine ih (i + 1) L _ M154 (by omega) hL8 hSB hall h12 hF ?_ (Vb.addSite hVq (by decide) (by omega) ⟨b0, b1⟩ ⟨b2, b3⟩ (by omega) (by omega)) ?_ (hCi.now (hB.push hV.1.bn) h154.2.1 h154.2.2) ?_ ?_ (hO.trans (h154.2.2.mono (by omega)))
        · rw [← hres, List.drop_eq_getElem_cons (show i < L.length by omega), addL_s]
          have e : L[i]'(by omega) = s0 := by
            have := List.getElem?_eq_getElem (l := L) (i := i) (by omega)
            rw [hs0] at this
            exact (Option.some.inj this).symm
          rw [e]
        · rw [(addSiteR_n hVq.n7.1).1, eC]
          omega
        · rw [h154.2.2 _ (by omega)]
          exact hf
        · intro u s hs
          have g := hLn u s hs
          unfold Ln at g ⊢
          rw [h154.2.2 _ (by omega)]
          exact g
  have L23 : ∀ (k : Nat) (i : Nat) (L : List (Int × Int × Int × Int)) (z : Nat) (M1 : xM), i + k = L.length → L.length ≤ 8 → parF t = (some L, z) → (∀ s ∈ L, SB s) → (∀ u s, u < i → L[u]? = some s → hrsB r s = true) → CSt M1 a r h sn t → M1 (a + 203) 3 = (L.length : Int) → LnS M1 (a + 203) L → Off M M1 a 215 → G p l e (rmd 4) s m args below meth c D Bs 3 0 0 (MQ below (xQ D Bs (pI sz kd rf (fun q M' => q = (readF t r).1 ∧ CSt M' a (actR (readF t r).2 r) (actH (readF t r).2 r h) sn t ∧ Off M M' a 215))) args s 0 0 (fun q => Bs ≤ q)) sz kd rf (M1) 23 [some (.ref a), some (vi (i : Int)), none] [] := by
    intro k
    induction k with
    | zero =>
      intro i L z M1 hik hL8 hpf hSB hgd hCi hf hLn hO
      have hM1 := hCi.1
      obtain ⟨hb0, -, -, -, -, -, -, -, hb8⟩ := hM1.1
      refine G.iload_n X 24 dX5_readSites_23 rfl rfl ?_
      refine G.aload_n X 25 dX5_readSites_24 rfl rfl ?_
      refine G.getR X fl_X5_36 28 dX5_readSites_25 rfl (hX).1 (ShX.r5 hX) ?_
      refine G.getf (v := vi ((L.length : Int))) X fl_X5_188 31 dX5_readSites_28 rfl ((ShX.text hX)).1 ((xV_int (((ShX.text hX)).2.2.2.1 3 (by decide))).trans (congrArg vi ?_)) ?_
      · exact hf
      refine G.icmp_ge X 77 34 dX5_readSites_31 (by decide) rfl (by omega) (by omega) (fun hc31 => ?_) (fun hc31 => ?_)
      · refine G.aload_n X 78 dX5_readSites_77 rfl rfl ?_
        refine G.getR X fl_X5_10 81 dX5_readSites_78 rfl (hX).1 (ShX.r0 hX) ?_
        refine G.getI X fl_X5_107 84 dX5_readSites_81 rfl ((ShX.now hX)).1 (((ShX.now hX)).2.1 8 (by decide)) ?_
        refine G.aload_n X 85 dX5_readSites_84 rfl rfl ?_
        refine G.getR X fl_X5_36 88 dX5_readSites_85 rfl (hX).1 (ShX.r5 hX) ?_
        refine G.getf (v := vi ((L.length : Int))) X fl_X5_188 91 dX5_readSites_88 rfl ((ShX.text hX)).1 ((xV_int (((ShX.text hX)).2.2.2.1 3 (by decide))).trans (congrArg vi ?_)) ?_
        · exact hf
        refine G.iadd X 92 dX5_readSites_91 rfl ?_
        refine G.bipush X 94 dX5_readSites_92 rfl (by decide) ?_
        refine G.icmp_le X 100 97 dX5_readSites_94 (by decide) rfl (by omega) (by omega) (fun hc94 => ?_) (fun hc94 => ?_)
        · refine G.aload_n X 101 dX5_readSites_100 rfl rfl ?_
          refine G.getR X fl_X5_29 104 dX5_readSites_101 rfl (hX).1 (ShX.r4 hX) ?_
          refine G.aload_n X 105 dX5_readSites_104 rfl rfl ?_
          refine G.getR X fl_X5_10 108 dX5_readSites_105 rfl (hX).1 (ShX.r0 hX) ?_
          obtain ⟨o, hho⟩ := hCi.2.1
          refine G.vV1 (d := 2) X ml_X5_53 yv_X2_push 111 dX5_readSites_108 rfl (c_X2_push l D Bs _ kd rf _ (a + 76) (a + 1) o h r (ShX.hist hX) (ShX.now hX) hVk hCi.1 hho hB.1 (by omega)) ⟨_, _, ((ShX.hist hX)).1, rfl, rfl⟩ (by decide) ⟨Nat.zero_le _, Nat.zero_le _⟩ (Nat.le_of_ble_eq_true rfl) (fun M108 h108 => ?_)
          have hC2 := hCi.push hV.1.bn hB h108.1 h108.2
          have hO2 : Off M M108 a 215 := hO.trans (h108.2.mono (by omega))
          have hB2 := hB.push hV.1.bn (r := r)
          have hf2 : M108 (a + 203) 3 = (L.length : Int) := by
            rw [h108.2 _ (by omega)]
            exact hf
          have hLn2 : LnS M108 (a + 203) L := fun u s hs => by
            have g := hLn u s hs
            unfold Ln at g ⊢
            rw [h108.2 _ (by have := (List.getElem?_eq_some_iff.mp hs).1; omega)]
            exact g
          have hF2 : ∀ v, readF t r = v → v = ((L.length : Int), some (addL L r)) := fun v hv => by
            rw [← hv]
            unfold readF
            rw [hpf]
            dsimp only
            unfold readG
            rw [if_neg (fun q => q (List.all_eq_true.mpr (fun s hs => by obtain ⟨u, hu⟩ := List.getElem?_of_mem hs; exact hgd u s (by have := (List.getElem?_eq_some_iff.mp hu).1; omega) hu))), if_neg (by omega)]
          refine G.iconst X 112 dX5_readSites_111 rfl ?_
          refine G.istore_n (ls' := [_, _, _]) X 113 dX5_readSites_112 rfl (by decide) rfl ?_
          exact L113 L.length 0 L r M108 (by omega) hL8 hSB (List.all_eq_true.mpr (fun s hs => by obtain ⟨u, hu⟩ := List.getElem?_of_mem hs; exact hgd u s (by have := (List.getElem?_eq_some_iff.mp hu).1; omega) hu)) (by omega) hF2 (by rw [List.drop_zero]) hVk rfl hC2 hf2 hLn2 hO2
        · refine G.bipush X 99 dX5_readSites_97 rfl (by decide) ?_
          refine G.iret X dX5_readSites_99 ⟨Nat.le_refl _, Nat.le_refl _⟩ ⟨rfl, rfl, rfl, _, rfl, ?_⟩
          unfold readF
          rw [hpf]
          dsimp only
          unfold readG
          rw [if_neg (fun q => q (List.all_eq_true.mpr (fun s hs => by obtain ⟨u, hu⟩ := List.getElem?_of_mem hs; exact hgd u s (by have := (List.getElem?_eq_some_iff.mp hu).1; omega) hu))), if_pos (by omega)]
          exact ⟨rfl, hCi, hO⟩
      · exfalso; omega
    | succ k ih =>
      intro i L z M1 hik hL8 hpf hSB hgd hCi hf hLn hO
      have hM1 := hCi.1
      obtain ⟨hb0, -, -, -, -, -, -, -, hb8⟩ := hM1.1
      refine G.iload_n X 24 dX5_readSites_23 rfl rfl ?_
      refine G.aload_n X 25 dX5_readSites_24 rfl rfl ?_
      refine G.getR X fl_X5_36 28 dX5_readSites_25 rfl (hX).1 (ShX.r5 hX) ?_
      refine G.getf (v := vi ((L.length : Int))) X fl_X5_188 31 dX5_readSites_28 rfl ((ShX.text hX)).1 ((xV_int (((ShX.text hX)).2.2.2.1 3 (by decide))).trans (congrArg vi ?_)) ?_
      · exact hf
      refine G.icmp_ge X 77 34 dX5_readSites_31 (by decide) rfl (by omega) (by omega) (fun hc31 => ?_) (fun hc31 => ?_)
      · exfalso; omega
      · refine G.aload_n X 35 dX5_readSites_34 rfl rfl ?_
        obtain ⟨s0, hs0⟩ : ∃ s0, L[i]? = some s0 := ⟨L[i]'(by omega), List.getElem?_eq_getElem (by omega)⟩
        have hsb := hSB s0 (List.mem_of_getElem? hs0)
        obtain ⟨⟨b0, b1⟩, ⟨b2, b3⟩, ⟨b4, b5⟩, b6, b7⟩ := hsb
        obtain ⟨l0, l1, l2, l3⟩ := hLn i s0 hs0
        refine G.getR X fl_X5_10 38 dX5_readSites_35 rfl (hX).1 (ShX.r0 hX) ?_
        refine G.aload_n X 39 dX5_readSites_38 rfl rfl ?_
        refine G.getR X fl_X5_36 42 dX5_readSites_39 rfl (hX).1 (ShX.r5 hX) ?_
        refine G.getR X fl_X5_191 45 dX5_readSites_42 rfl ((ShX.text hX)).1 ((ShX.text hX)).2.2.1 ?_
        refine G.iload_n X 46 dX5_readSites_45 rfl rfl ?_
        refine G.aald X 47 dX5_readSites_46 rfl (ShT.kl (ShX.text hX)) (by decide) (ShT.rl (ShX.text hX) (by omega)) rfl (by omega) (by decide) ?_
        refine G.getf (v := vi (s0.2.2.1)) X fl_X5_194 50 dX5_readSites_47 rfl (ShT.l (ShX.text hX) (by omega)).1 ((xV_int ((ShT.l (ShX.text hX) (by omega)).2 2)).trans (congrArg vi ?_)) ?_
        · exact l2
        refine G.aload_n X 51 dX5_readSites_50 rfl rfl ?_
        refine G.getR X fl_X5_36 54 dX5_readSites_51 rfl (hX).1 (ShX.r5 hX) ?_
        refine G.getR X fl_X5_191 57 dX5_readSites_54 rfl ((ShX.text hX)).1 ((ShX.text hX)).2.2.1 ?_
        refine G.iload_n X 58 dX5_readSites_57 rfl rfl ?_
        refine G.aald X 59 dX5_readSites_58 rfl (ShT.kl (ShX.text hX)) (by decide) (ShT.rl (ShX.text hX) (by omega)) rfl (by omega) (by decide) ?_
        refine G.getf (v := vi (s0.2.2.2)) X fl_X5_128 62 dX5_readSites_59 rfl (ShT.l (ShX.text hX) (by omega)).1 ((xV_int ((ShT.l (ShX.text hX) (by omega)).2 3)).trans (congrArg vi ?_)) ?_
        · exact l3
        refine G.vI2 (d := 1) X ml_X5_103 yv_X4_allowsHours 65 dX5_readSites_62 rfl (c_X4_allowsHours l D Bs _ kd rf _ (a + 1) s0.2.2.1 s0.2.2.2 ((ShX.now hX)) (by omega) (by omega) (by omega)) ⟨_, _, ((ShX.now hX)).1, rfl, rfl⟩ (by decide) ⟨Nat.zero_le _, Nat.zero_le _⟩ (Nat.le_of_ble_eq_true rfl) (fun r62 M62 h62 => ?_)
        obtain ⟨hr62, hm62⟩ := h62
        subst hr62
        obtain rfl := hm62.symm
        refine G.ifb_ne X 71 68 dX5_readSites_65 (by decide) rfl (fun hc65 => ?_) (fun hc65 => ?_)
        · refine G.iinc (ls' := [_, _, _]) X 74 dX5_readSites_71 rfl rfl (by decide) rfl ?_
          refine G.goto X 23 dX5_readSites_74 (by decide) ?_
          refine ih (i + 1) L z _ (by omega) hL8 hpf hSB (fun u s hu hs => ?_) hCi hf hLn hO
          by_cases e : u = i
          · subst e
            rw [hs0] at hs
            cases hs
            exact hrsB_iff.mpr (by omega)
          · exact hgd u s (by omega) hs
        · refine G.bipush X 70 dX5_readSites_68 rfl (by decide) ?_
          refine G.iret X dX5_readSites_70 ⟨Nat.le_refl _, Nat.le_refl _⟩ ⟨rfl, rfl, rfl, _, rfl, ?_⟩
          unfold readF
          rw [hpf]
          dsimp only
          unfold readG
          rw [if_pos (fun q => by have := hrsB_iff.mp (List.all_eq_true.mp q s0 (List.mem_of_getElem? hs0)); omega)]
          exact ⟨rfl, hCi, hO⟩
  refine G.aload_n X 1 dX5_readSites_0 rfl rfl ?_
  refine G.getR X fl_X5_36 4 dX5_readSites_1 rfl (hX).1 (ShX.r5 hX) ?_
  refine G.vI0 (d := 3) X ml_X5_181 yv_X3_read 7 dX5_readSites_4 rfl (c_X3_read l D Bs _ kd rf _ (a + 203) t ((ShX.text hX)) htx) ⟨_, _, ((ShX.text hX)).1, rfl, rfl⟩ (by decide) ⟨Nat.zero_le _, Nat.zero_le _⟩ (Nat.le_of_ble_eq_true rfl) (fun r4 M4 h4 => ?_)
  rcases h4 with ⟨z4, hs4, hr4, h44, hfr4⟩ | ⟨L4, z4, hs4, hr4, hm4, hfr4⟩
  · subst hr4
    have hC1 := hC.scr hV.1.bn hB (fun x _ _ _ => hfr4.2 x (by omega) (by omega)) hfr4.1 (hfr4.2 _ (by omega) (by omega))
    have hO1 : Off M M4 a 215 := fun x hx => hfr4.2 x (by omega) (by omega)
    refine G.if_ne X 21 10 dX5_readSites_7 (by decide) rfl (by omega) (fun hc7 => ?_) (fun hc7 => ?_)
    · exact absurd hc7 (by decide)
    · refine G.bipush X 12 dX5_readSites_10 rfl (by decide) ?_
      refine G.aload_n X 13 dX5_readSites_12 rfl rfl ?_
      refine G.getR X fl_X5_36 16 dX5_readSites_13 rfl (hX).1 (ShX.r5 hX) ?_
      refine G.getf (v := vi ((z4 : Int))) X fl_X5_185 19 dX5_readSites_16 rfl ((ShX.text hX)).1 ((xV_int (((ShX.text hX)).2.2.2.1 4 (by decide))).trans (congrArg vi ?_)) ?_
      · exact h44
      refine G.isub X 20 dX5_readSites_19 rfl ?_
      refine G.iret X dX5_readSites_20 ⟨Nat.le_refl _, Nat.le_refl _⟩ ⟨rfl, rfl, rfl, _, rfl, ?_⟩
      unfold readF
      rw [hs4]
      exact ⟨rfl, hC1, hO1⟩
  · subst hr4
    have hC1 := hC.scr hV.1.bn hB (fun x _ _ _ => hfr4.2 x (by omega) (by omega)) hfr4.1 (hfr4.2 _ (by omega) (by omega))
    have hO1 : Off M M4 a 215 := fun x hx => hfr4.2 x (by omega) (by omega)
    refine G.if_ne X 21 10 dX5_readSites_7 (by decide) rfl (by omega) (fun hc7 => ?_) (fun hc7 => ?_)
    · refine G.iconst X 22 dX5_readSites_21 rfl ?_
      refine G.istore_n (ls' := [_, _, _]) X 23 dX5_readSites_22 rfl (by decide) rfl ?_
      exact L23 L4.length 0 L4 z4 M4 (by omega) hm4.2.1 hs4 (parF_ok hs4) (fun u s hu => absurd hu (Nat.not_lt_zero u)) hC1 hm4.1 hm4.2.2 hO1
    · exact absurd hc7 (by decide)
