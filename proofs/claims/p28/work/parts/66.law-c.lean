/-! what acts answer, case by case -/
theorem yardZ_rng (r : xR) : ∀ n : Nat, 0 ≤ yardZ r n ∧ yardZ r n ≤ n
  | 0 => ⟨Int.le_refl 0, Int.le_refl 0⟩
  | n + 1 => by
    have := yardZ_rng r n
    rw [yardZ_s]
    split <;> omega
theorem take_no {r : xR} {x : Int} (hx : ¬ (0 ≤ x ∧ x < r 7)) : takeF x r = (-1, none) := if_pos hx
theorem take_z {r : xR} {i : Nat} (hi : (i : Int) < r 7) (h4 : fC r i 4 = 0) : takeF (i : Int) r = (-5, none) := by
  unfold takeF
  rw [if_neg (by omega), Int.toNat_natCast, if_pos h4]
theorem take_s {r : xR} {i j : Nat} (hi : (i : Int) < r 7) (h4 : fC r i 4 = (j : Int) + 1) : takeF (i : Int) r = ((j : Int), some (backR r i)) := by
  unfold takeF
  rw [if_neg (by omega), Int.toNat_natCast, if_neg (by omega), show fC r i 4 - 1 = (j : Int) by omega]
theorem bring_no {r : xR} {x y : Int} (hx : ¬ ((0 ≤ x ∧ x < r 6) ∧ (0 ≤ y ∧ y < r 7))) : bringF x y r = (-1, none) := if_pos hx
theorem bring_n {r : xR} {i k : Nat} (hi : (i : Int) < r 6) (hk : (k : Int) < r 7) (hn : ¬ (fS r i 5 = 0 ∧ fC r k 4 = 0 ∧ r 0 < fC r k 3 ∧ fC r k 1 ≤ fS r i 0)) : bringF (i : Int) (k : Int) r = (-4, none) := by
  unfold bringF
  rw [if_neg (by omega), Int.toNat_natCast, Int.toNat_natCast, if_pos hn]
theorem bring_s {r : xR} {i k : Nat} (hi : (i : Int) < r 6) (hk : (k : Int) < r 7) (h5 : fS r i 5 = 0) (h4 : fC r k 4 = 0) (h0 : r 0 < fC r k 3) (hp : fC r k 1 ≤ fS r i 0) : bringF (i : Int) (k : Int) r = (yardZ (comeR r i k) (nS r), some (comeR r i k)) := by
  unfold bringF
  rw [if_neg (by omega), Int.toNat_natCast, Int.toNat_natCast, if_neg (fun g => g ⟨h5, h4, h0, hp⟩)]
/-- nothing more could be given out -/
def Gd (r : xR) : Prop := ∀ x, x < nC r → openB r x = true → fC r x 4 = 0 → ∀ i, i < nS r → fS r i 5 = 0 → fS r i 0 < fC r x 1
theorem give_get {r : xR} (h : Jr r) : (giveF r = (-5, none) ∧ Gd r) ∨ ∃ (t : Int) (r1 : xR), giveF r = (t, some r1) ∧ Jr r1 ∧ Gd r1 ∧ 0 < t ∧ t = yardZ r (nS r) - yardZ r1 (nS r1) := by
  have g := giveL_all (needL r) (0, r) h (fun x hx => sortK_mem.mp hx)
  unfold giveF
  generalize giveL (needL r) (0, r) = Z at g ⊢
  obtain ⟨a1, a2, a3, a4, a5, a6⟩ := g
  dsimp only at a2 a3 a4 a5 a6
  have gd : Gd Z.2 := fun x hx ho h4 i hi h5 => by
    have hm : x ∈ needL r := by
      refine sortK_mem.mpr ⟨by rw [← a2.1.2.1]; exact hx, ?_⟩
      unfold openB at ho ⊢
      rw [a2.2.2.2.1 x 2 (by decide), a2.2.2.2.1 x 3 (by decide), a2.1.2.2.1] at ho
      exact ho
    rw [a2.1.1] at hi
    exact yardF_no ((a6 x hm).resolve_left (fun g => g h4)) i hi h5
  by_cases hp : 0 < Z.1
  · rw [if_pos hp]
    exact Or.inr ⟨Z.1, Z.2, rfl, a1, gd, hp, by rw [a2.1.1]; omega⟩
  · rw [if_neg hp]
    refine Or.inl ⟨rfl, ?_⟩
    rw [a5 (by omega)] at gd
    exact gd
theorem Sw.get {r : xR} {x y u v : Nat} (h : Jr r) (hw : Sw r x y u v) : ∃ r1 : xR, r1 = comeR (comeR r v y) u x ∧ Jr r1 ∧ (nS r1 = nS r ∧ nC r1 = nC r ∧ r1 6 = r 6 ∧ r1 7 = r 7) ∧ (x < nC r ∧ y < nC r ∧ u < nS r ∧ v < nS r) ∧ fC r1 x 4 = (u : Int) + 1 ∧ fC r1 y 4 = (v : Int) + 1 ∧ openB r1 x = true ∧ fS r1 v 0 < fC r1 x 1 ∧ fS r1 u 7 = 0 ∧ fS r1 u 6 = 0 ∧ fS r1 v 6 = 0 ∧ yardZ r1 (nS r1) = yardZ r (nS r) - 1 := by
  obtain ⟨j1, j2, j3, j4, j5⟩ := Sw.jr h hw
  obtain ⟨⟨hs, ho, hs4, hsy⟩, ⟨hg, hg4, hu, huf⟩, hv, hv5, hvf⟩ := hw
  have n6 := h.1.1.n6
  have e0 : ∀ k, k < 16 → comeR (comeR r v y) u x k = r k := fun k hk => (comeR_0 hk).trans (comeR_0 hk)
  have eS : nS (comeR (comeR r v y) u x) = nS r := nS_of (e0 6 (by decide))
  have f : ∀ i k, i < 10 → k < 10 → fS (comeR (comeR r v y) u x) i k = if i = u ∧ k = 5 then (x : Int) + 1 else if i = u ∧ (k = 6 ∨ k = 7) then 0 else if i = v ∧ k = 5 then (y : Int) + 1 else if i = v ∧ (k = 6 ∨ k = 7) then 0 else fS r i k := fun i k hi hk => by rw [comeR_S hi hk, comeR_S hi hk]
  have g : ∀ j k, k < 10 → fC (comeR (comeR r v y) u x) j k = if j = x ∧ k = 4 then (u : Int) + 1 else if j = y ∧ k = 4 then (v : Int) + 1 else fC r j k := fun j k hk => by rw [comeR_C (by omega) hk, comeR_C (by omega) hk]
  refine ⟨_, rfl, j1, ⟨eS, nC_of (e0 7 (by decide)), e0 6 (by decide), e0 7 (by decide)⟩, ⟨hs, hg, hu, hv⟩, ?_, ?_, ?_, ?_, ?_, ?_, ?_, ?_⟩
  · rw [g x 4 (by decide), if_pos (by omega)]
  · rw [g y 4 (by decide), if_neg (by omega), if_pos (by omega)]
  · unfold openB at ho ⊢
    rw [g x 2 (by decide), g x 3 (by decide), if_neg (by omega), if_neg (by omega), if_neg (by omega), if_neg (by omega), e0 0 (by decide)]
    exact ho
  · rw [f v 0 (by omega) (by decide), g x 1 (by decide), if_neg (by omega), if_neg (by omega), if_neg (by omega), if_neg (by omega), if_neg (by omega), if_neg (by omega)]
    exact j3
  · rw [f u 7 (by omega) (by decide), if_neg (by omega), if_pos (by omega)]
  · rw [f u 6 (by omega) (by decide), if_neg (by omega), if_pos (by omega)]
  · rw [f v 6 (by omega) (by decide), if_neg (by omega), if_neg (by omega), if_neg (by omega), if_pos (by omega)]
  · rw [eS]
    exact j2
/-- an act that is done records the state before it; one that is not leaves all as it was -/
def Rl (r : xR) (h : List xR) (r1 : xR) (h1 : List xR) : Prop := r1 = r ∧ h1 = h ∨ h1 = (r :: h).take 5
set_option maxHeartbeats 2000000 in
set_option maxRecDepth 100000 in
theorem c_L_moves (l : Launch) (D : xD) (Bs sz : Nat) (kd : xKd) (rf : xRf) (M : xM) (a : Nat) (r : xR) (h : List xR) (sn : Option xR) (hO : Ob kd rf a M r h sn) (so g w : Int) (hso : 0 ≤ so ∧ so ≤ 3) (hg : IR g) (hw : IR w) : CtI l D Bs yL_moves cL_moves 11 (some .boolean) 8 [.ref a, vi so, vi g, vi w] sz kd rf M (fun q M' => q = 1 ∧ ∃ (r1 : xR) (h1 : List xR), Ob kd rf a M' r1 h1 sn ∧ Rl r h r1 h1) := by
  refine Ctr.of (ys_L_moves.1.2.2.2.2) (List.forall_mem_cons.mpr ⟨rfl, List.forall_mem_cons.mpr ⟨rfl, List.forall_mem_cons.mpr ⟨rfl, List.forall_mem_cons.mpr ⟨rfl, fun _ h => absurd h List.not_mem_nil⟩⟩⟩⟩) (Nat.le_of_ble_eq_true rfl) [some (.ref a), some (vi so), some (vi g), some (vi w), none, none, none, none, none, none, none] rfl ?_
  intro p e s m args below meth c X hin
  obtain ⟨hX, hI, hC⟩ := id hO
  have hV := hI.1.1.1
  have hJ := hI.1.2
  obtain ⟨n6, n6b⟩ := hV.n6
  obtain ⟨n7, n7b⟩ := hV.n7
  have yz := yardZ_rng r (nS r)
  have hz0 := hV.1.1
  have L21 : ∀ (k : Nat) (i : Nat) (t y : Int) (r1 : xR) (h1 : List xR) (M : xM), i + k = nC r1 → (y = yardZ r1 (nS r1) ∧ t = -5 ∨ 0 < t ∧ t = y - yardZ r1 (nS r1)) → (0 ≤ y ∧ y ≤ 10) → Gd r1 → Rl r h r1 h1 → Ob kd rf a M r1 h1 sn → G p l e (rmd 8) s m args below meth c D Bs 11 0 0 (MQ below (xQ D Bs (pI sz kd rf (fun q M' => q = 1 ∧ ∃ (r1 : xR) (h1 : List xR), Ob kd rf a M' r1 h1 sn ∧ Rl r h r1 h1))) args s 0 0 (fun q => Bs ≤ q)) sz kd rf (M) 21 [some (.ref a), some (vi so), some (vi g), some (vi w), some (vi y), some (vi t), some (vi (i : Int)), none, none, none, none] [] := by
    intro k
    induction k with
    | zero =>
      intro i t y r1 h1 M hik htl hy hgd hR hO
      obtain ⟨hX1, hI1, hC1⟩ := id hO
      have hV1 := hI1.1.1.1
      obtain ⟨m6, m6b⟩ := hV1.n6
      obtain ⟨m7, m7b⟩ := hV1.n7
      have yr := yardZ_rng r1 (nS r1)
      refine G.iload X 23 dL_moves_21 rfl rfl ?_
      refine G.aload_n X 24 dL_moves_23 rfl rfl ?_
      refine G.bipush X 26 dL_moves_24 rfl (by decide) ?_
      refine GS.count X hO ml_L_13 29 dL_moves_26 rfl (cnt_9) (by decide) (by decide) ⟨Nat.zero_le _, Nat.zero_le _⟩ (Nat.le_of_ble_eq_true rfl) (fun M hO => ?_)
      refine G.icmp_ge X 71 32 dL_moves_29 (by decide) rfl (by omega) (by omega) (fun hc29 => ?_) (fun hc29 => by exfalso; omega)
      rcases htl with ⟨e1, e2⟩ | ⟨e1, e2⟩
      · skip
        refine G.iload X 73 dL_moves_71 rfl rfl ?_
        refine G.iload X 75 dL_moves_73 rfl rfl ?_
        refine G.aload_n X 76 dL_moves_75 rfl rfl ?_
        refine G.bipush X 78 dL_moves_76 rfl (by decide) ?_
        refine GS.count X hO ml_L_13 81 dL_moves_78 rfl (cnt_8) (by decide) (by decide) ⟨Nat.zero_le _, Nat.zero_le _⟩ (Nat.le_of_ble_eq_true rfl) (fun M hO => ?_)
        refine G.neF X 84 dL_moves_81 89 (by decide) rfl (e1) ?_
        refine G.bipush X 86 dL_moves_84 rfl (by decide) ?_
        refine G.goto X 98 dL_moves_86 (by decide) ?_
        refine G.neF X 101 dL_moves_98 105 (by decide) rfl (e2) ?_
        refine G.iconst X 102 dL_moves_101 rfl ?_
        refine G.goto X 106 dL_moves_102 (by decide) ?_
        refine G.zret X dL_moves_106 ⟨Nat.le_refl _, Nat.le_refl _⟩ (Or.inr rfl) ⟨rfl, rfl, rfl, _, rfl, ?_⟩
        exact ⟨rfl, r1, h1, hO, hR⟩
      · skip
        refine G.iload X 73 dL_moves_71 rfl rfl ?_
        refine G.iload X 75 dL_moves_73 rfl rfl ?_
        refine G.aload_n X 76 dL_moves_75 rfl rfl ?_
        refine G.bipush X 78 dL_moves_76 rfl (by decide) ?_
        refine GS.count X hO ml_L_13 81 dL_moves_78 rfl (cnt_8) (by decide) (by decide) ⟨Nat.zero_le _, Nat.zero_le _⟩ (Nat.le_of_ble_eq_true rfl) (fun M hO => ?_)
        refine G.icmp_ne X 89 84 dL_moves_81 (by decide) rfl (by omega) (by omega) (fun hc81 => ?_) (fun hc81 => by exfalso; omega)
        refine G.iload X 91 dL_moves_89 rfl rfl ?_
        refine G.aload_n X 92 dL_moves_91 rfl rfl ?_
        refine G.bipush X 94 dL_moves_92 rfl (by decide) ?_
        refine GS.count X hO ml_L_13 97 dL_moves_94 rfl (cnt_8) (by decide) (by decide) ⟨Nat.zero_le _, Nat.zero_le _⟩ (Nat.le_of_ble_eq_true rfl) (fun M hO => ?_)
        refine G.isub X 98 dL_moves_97 rfl ?_
        refine G.neF X 101 dL_moves_98 105 (by decide) rfl (e2) ?_
        refine G.iconst X 102 dL_moves_101 rfl ?_
        refine G.goto X 106 dL_moves_102 (by decide) ?_
        refine G.zret X dL_moves_106 ⟨Nat.le_refl _, Nat.le_refl _⟩ (Or.inr rfl) ⟨rfl, rfl, rfl, _, rfl, ?_⟩
        exact ⟨rfl, r1, h1, hO, hR⟩
    | succ k ih =>
      intro i t y r1 h1 M hik htl hy hgd hR hO
      obtain ⟨hX1, hI1, hC1⟩ := id hO
      have hV1 := hI1.1.1.1
      obtain ⟨m6, m6b⟩ := hV1.n6
      obtain ⟨m7, m7b⟩ := hV1.n7
      have yr := yardZ_rng r1 (nS r1)
      have hi : i < nC r1 := by omega
      refine G.iload X 23 dL_moves_21 rfl rfl ?_
      refine G.aload_n X 24 dL_moves_23 rfl rfl ?_
      refine G.bipush X 26 dL_moves_24 rfl (by decide) ?_
      refine GS.count X hO ml_L_13 29 dL_moves_26 rfl (cnt_9) (by decide) (by decide) ⟨Nat.zero_le _, Nat.zero_le _⟩ (Nat.le_of_ble_eq_true rfl) (fun M hO => ?_)
      refine G.icmp_ge X 71 32 dL_moves_29 (by decide) rfl (by omega) (by omega) (fun hc29 => by exfalso; omega) (fun hc29 => ?_)
      by_cases ho : openB r1 i = true
      · skip
        refine G.aload_n X 33 dL_moves_32 rfl rfl ?_
        refine G.iload X 35 dL_moves_33 rfl rfl ?_
        refine G.bipush X 37 dL_moves_35 rfl (by decide) ?_
        refine GS.site X hO ml_L_23 40 dL_moves_37 rfl (sit_9t (i := i) (by omega) ho) (by omega) (by decide) (by decide) ⟨Nat.zero_le _, Nat.zero_le _⟩ (Nat.le_of_ble_eq_true rfl) ?_
        refine G.iconst X 41 dL_moves_40 rfl ?_
        refine G.icmp_ne X 65 44 dL_moves_41 (by decide) rfl (by omega) (by omega) (fun hc41 => by exact absurd hc41 (by decide)) (fun hc41 => ?_)
        rcases hV1.s4 hi with e4 | ⟨m, e4, hm⟩
        · skip
          refine G.aload_n X 45 dL_moves_44 rfl rfl ?_
          refine G.iload X 47 dL_moves_45 rfl rfl ?_
          refine G.iconst X 48 dL_moves_47 rfl ?_
          refine GS.site X hO ml_L_23 51 dL_moves_48 rfl (sit_4z (i := i) (by omega) (by omega)) (by omega) (by decide) (by decide) ⟨Nat.zero_le _, Nat.zero_le _⟩ (Nat.le_of_ble_eq_true rfl) ?_
          refine G.if_ge X 65 54 dL_moves_51 (by decide) rfl (by omega) (fun hc51 => by exact absurd hc51 (by decide)) (fun hc51 => ?_)
          refine G.aload_n X 55 dL_moves_54 rfl rfl ?_
          refine G.iload X 57 dL_moves_55 rfl rfl ?_
          refine G.sI2 (d := 7) X ml_L_48 ys_L_could 60 dL_moves_57 rfl (c_L_could l D Bs sz kd rf M a r1 h1 sn hO i hi (hgd i hi ho e4)) (by decide) ⟨Nat.zero_le _, Nat.zero_le _⟩ (Nat.le_of_ble_eq_true rfl) (fun q57 M h57 => ?_)
          obtain ⟨e57, hO⟩ := h57
          rw [e57]
          refine G.if_eq X 65 63 dL_moves_60 (by decide) rfl (by omega) (fun hc60 => ?_) (fun hc60 => by exact absurd hc60 (by decide))
          refine G.iinc (ls' := [_, _, _, _, _, _, _, _, _, _, _]) X 68 dL_moves_65 rfl rfl (by decide) rfl ?_
          refine G.goto X 21 dL_moves_68 (by decide) ?_
          exact ih (i + 1) t y r1 h1 M (by omega) htl hy hgd hR hO
        · skip
          refine G.aload_n X 45 dL_moves_44 rfl rfl ?_
          refine G.iload X 47 dL_moves_45 rfl rfl ?_
          refine G.iconst X 48 dL_moves_47 rfl ?_
          refine GS.site X hO ml_L_23 51 dL_moves_48 rfl (sit_4p (i := i) (j := m) (by omega) (by omega)) (by omega) (by decide) (by decide) ⟨Nat.zero_le _, Nat.zero_le _⟩ (Nat.le_of_ble_eq_true rfl) ?_
          refine G.if_ge X 65 54 dL_moves_51 (by decide) rfl (by omega) (fun hc51 => ?_) (fun hc51 => by omega)
          refine G.iinc (ls' := [_, _, _, _, _, _, _, _, _, _, _]) X 68 dL_moves_65 rfl rfl (by decide) rfl ?_
          refine G.goto X 21 dL_moves_68 (by decide) ?_
          exact ih (i + 1) t y r1 h1 M (by omega) htl hy hgd hR hO
      · skip
        refine G.aload_n X 33 dL_moves_32 rfl rfl ?_
        refine G.iload X 35 dL_moves_33 rfl rfl ?_
        refine G.bipush X 37 dL_moves_35 rfl (by decide) ?_
        refine GS.site X hO ml_L_23 40 dL_moves_37 rfl (sit_9f (i := i) (by omega) ho) (by omega) (by decide) (by decide) ⟨Nat.zero_le _, Nat.zero_le _⟩ (Nat.le_of_ble_eq_true rfl) ?_
        refine G.iconst X 41 dL_moves_40 rfl ?_
        refine G.icmp_ne X 65 44 dL_moves_41 (by decide) rfl (by omega) (by omega) (fun hc41 => ?_) (fun hc41 => by exact absurd hc41 (by decide))
        refine G.iinc (ls' := [_, _, _, _, _, _, _, _, _, _, _]) X 68 dL_moves_65 rfl rfl (by decide) rfl ?_
        refine G.goto X 21 dL_moves_68 (by decide) ?_
        exact ih (i + 1) t y r1 h1 M (by omega) htl hy hgd hR hO
  have L141 : ∀ (z : Int) (M : xM), (-5 ≤ z ∧ z < 12) → Ob kd rf a M r h sn → G p l e (rmd 8) s m args below meth c D Bs 11 0 0 (MQ below (xQ D Bs (pI sz kd rf (fun q M' => q = 1 ∧ ∃ (r1 : xR) (h1 : List xR), Ob kd rf a M' r1 h1 sn ∧ Rl r h r1 h1))) args s 0 0 (fun q => Bs ≤ q)) sz kd rf (M) 141 [some (.ref a), some (vi so), some (vi g), some (vi w), some (vi (yardZ r (nS r))), none, none, none, none, none, none] [vi z] := by
    intro z M hz hO
    refine G.istore (ls' := [_, _, _, _, _, _, _, _, _, _, _]) X 143 dL_moves_141 rfl (by decide) rfl ?_
    rcases swapL_get hI.1 (needL r) (fun x hx => sortK_mem.mp hx) with hsw | ⟨x, y, u, v, hw, hsw⟩
    · skip
      refine G.aload_n X 144 dL_moves_143 rfl rfl ?_
      refine GS.swapN X hO ml_L_55 147 dL_moves_144 rfl (hsw)  (by decide) ⟨Nat.zero_le _, Nat.zero_le _⟩ (Nat.le_of_ble_eq_true rfl) (fun M hO => ?_)
      refine G.istore (ls' := [_, _, _, _, _, _, _, _, _, _, _]) X 149 dL_moves_147 rfl (by decide) rfl ?_
      refine G.iload X 151 dL_moves_149 rfl rfl ?_
      refine G.if_ge X 178 154 dL_moves_151 (by decide) rfl (by omega) (fun hc151 => by exact absurd hc151 (by decide)) (fun hc151 => ?_)
      refine G.iload X 156 dL_moves_154 rfl rfl ?_
      refine G.bipush X 158 dL_moves_156 rfl (by decide) ?_
      refine G.icmp_ne X 176 161 dL_moves_158 (by decide) rfl (by omega) (by omega) (fun hc158 => by exact absurd hc158 (by decide)) (fun hc158 => ?_)
      refine G.aload_n X 162 dL_moves_161 rfl rfl ?_
      refine G.bipush X 164 dL_moves_162 rfl (by decide) ?_
      refine GS.count X hO ml_L_13 167 dL_moves_164 rfl (cnt_8) (by decide) (by decide) ⟨Nat.zero_le _, Nat.zero_le _⟩ (Nat.le_of_ble_eq_true rfl) (fun M hO => ?_)
      refine G.iload X 169 dL_moves_167 rfl rfl ?_
      refine G.neF X 172 dL_moves_169 176 (by decide) rfl (rfl) ?_
      refine G.iconst X 173 dL_moves_172 rfl ?_
      refine G.goto X 177 dL_moves_173 (by decide) ?_
      refine G.zret X dL_moves_177 ⟨Nat.le_refl _, Nat.le_refl _⟩ (Or.inr rfl) ⟨rfl, rfl, rfl, _, rfl, ?_⟩
      exact ⟨rfl, r, h, hO, Or.inl ⟨rfl, rfl⟩⟩
    · obtain ⟨r1, hr1, hJ1, ⟨q1, q2, q3, q4⟩, ⟨b1, b2, b3, b4⟩, f1, f2, f3, f4, f5, f6, f7, f8⟩ := Sw.get hI.1 hw
      rw [← hr1] at hsw
      have w1 := hJ1.1.1.2.1 u (by omega)
      unfold Vset at w1
      have w2 := hJ1.1.1.2.1 v (by omega)
      unfold Vset at w2
      have w3 := hJ1.1.1.2.2 x (by omega)
      unfold Vsite at w3
      refine G.aload_n X 144 dL_moves_143 rfl rfl ?_
      refine GS.swapS X hO ml_L_55 147 dL_moves_144 rfl (hsw) (hJ1)  (by decide) ⟨Nat.zero_le _, Nat.zero_le _⟩ (Nat.le_of_ble_eq_true rfl) (fun M hO => ?_)
      refine G.istore (ls' := [_, _, _, _, _, _, _, _, _, _, _]) X 149 dL_moves_147 rfl (by decide) rfl ?_
      refine G.iload X 151 dL_moves_149 rfl rfl ?_
      refine G.if_ge X 178 154 dL_moves_151 (by decide) rfl (by omega) (fun hc151 => ?_) (fun hc151 => by exfalso; omega)
      refine G.iload X 180 dL_moves_178 rfl rfl ?_
      refine G.bipush X 182 dL_moves_180 rfl (by decide) ?_
      refine G.idivI X 183 dL_moves_182 rfl (by omega) (by omega) ?_
      rw [show (100 * (x : Int) + (y : Int)) / 100 = (x : Int) by omega]
      refine G.istore (ls' := [_, _, _, _, _, _, _, _, _, _, _]) X 185 dL_moves_183 rfl (by decide) rfl ?_
      refine G.iload X 187 dL_moves_185 rfl rfl ?_
      refine G.bipush X 189 dL_moves_187 rfl (by decide) ?_
      refine G.iremI X 190 dL_moves_189 rfl (by omega) (by omega) ?_
      rw [show (100 * (x : Int) + (y : Int)) % 100 = (y : Int) by omega]
      refine G.istore (ls' := [_, _, _, _, _, _, _, _, _, _, _]) X 192 dL_moves_190 rfl (by decide) rfl ?_
      refine G.aload_n X 193 dL_moves_192 rfl rfl ?_
      refine G.iload X 195 dL_moves_193 rfl rfl ?_
      refine G.iconst X 196 dL_moves_195 rfl ?_
      refine GS.site X hO ml_L_23 199 dL_moves_196 rfl (sit_4p (i := x) (j := u) (by omega) (by omega)) (by omega) (by decide) (by decide) ⟨Nat.zero_le _, Nat.zero_le _⟩ (Nat.le_of_ble_eq_true rfl) ?_
      refine G.istore (ls' := [_, _, _, _, _, _, _, _, _, _, _]) X 201 dL_moves_199 rfl (by decide) rfl ?_
      refine G.aload_n X 202 dL_moves_201 rfl rfl ?_
      refine G.iload X 204 dL_moves_202 rfl rfl ?_
      refine G.iconst X 205 dL_moves_204 rfl ?_
      refine GS.site X hO ml_L_23 208 dL_moves_205 rfl (sit_4p (i := y) (j := v) (by omega) (by omega)) (by omega) (by decide) (by decide) ⟨Nat.zero_le _, Nat.zero_le _⟩ (Nat.le_of_ble_eq_true rfl) ?_
      refine G.istore (ls' := [_, _, _, _, _, _, _, _, _, _, _]) X 210 dL_moves_208 rfl (by decide) rfl ?_
      refine G.iload X 212 dL_moves_210 rfl rfl ?_
      refine G.bipush X 214 dL_moves_212 rfl (by decide) ?_
      refine G.icmp_ge X 306 217 dL_moves_214 (by decide) rfl (by omega) (by omega) (fun hc214 => by exfalso; omega) (fun hc214 => ?_)
      refine G.aload_n X 218 dL_moves_217 rfl rfl ?_
      refine G.iload X 220 dL_moves_218 rfl rfl ?_
      refine G.bipush X 222 dL_moves_220 rfl (by decide) ?_
      refine GS.site X hO ml_L_23 225 dL_moves_222 rfl (sit_9t (i := x) (by omega) f3) (by omega) (by decide) (by decide) ⟨Nat.zero_le _, Nat.zero_le _⟩ (Nat.le_of_ble_eq_true rfl) ?_
      refine G.iconst X 226 dL_moves_225 rfl ?_
      refine G.icmp_ne X 306 229 dL_moves_226 (by decide) rfl (by omega) (by omega) (fun hc226 => by exact absurd hc226 (by decide)) (fun hc226 => ?_)
      refine G.iload X 231 dL_moves_229 rfl rfl ?_
      refine G.if_lt X 306 234 dL_moves_231 (by decide) rfl (by omega) (fun hc231 => by omega) (fun hc231 => ?_)
      refine G.iload X 236 dL_moves_234 rfl rfl ?_
      refine G.if_lt X 306 239 dL_moves_236 (by decide) rfl (by omega) (fun hc236 => by omega) (fun hc236 => ?_)
      refine G.aload_n X 240 dL_moves_239 rfl rfl ?_
      refine G.iload X 242 dL_moves_240 rfl rfl ?_
      refine G.iconst X 243 dL_moves_242 rfl ?_
      refine GS.set X hO ml_L_19 246 dL_moves_243 rfl (set_0 (i := v) (by omega)) (by omega) (by decide) (by decide) ⟨Nat.zero_le _, Nat.zero_le _⟩ (Nat.le_of_ble_eq_true rfl) ?_
      refine G.aload_n X 247 dL_moves_246 rfl rfl ?_
      refine G.iload X 249 dL_moves_247 rfl rfl ?_
      refine G.iconst X 250 dL_moves_249 rfl ?_
      refine GS.site X hO ml_L_23 253 dL_moves_250 rfl (sit_1 (i := x) (by omega)) (by omega) (by decide) (by decide) ⟨Nat.zero_le _, Nat.zero_le _⟩ (Nat.le_of_ble_eq_true rfl) ?_
      refine G.icmp_ge X 306 256 dL_moves_253 (by decide) rfl (by omega) (by omega) (fun hc253 => by exfalso; omega) (fun hc253 => ?_)
      refine G.aload_n X 257 dL_moves_256 rfl rfl ?_
      refine G.iload X 259 dL_moves_257 rfl rfl ?_
      refine G.bipush X 261 dL_moves_259 rfl (by decide) ?_
      refine GS.set X hO ml_L_19 264 dL_moves_261 rfl (set_7 (i := u) (by omega)) (by omega) (by decide) (by decide) ⟨Nat.zero_le _, Nat.zero_le _⟩ (Nat.le_of_ble_eq_true rfl) ?_
      refine G.if_ne X 306 267 dL_moves_264 (by decide) rfl (by omega) (fun hc264 => by exfalso; omega) (fun hc264 => ?_)
      refine G.aload_n X 268 dL_moves_267 rfl rfl ?_
      refine G.iload X 270 dL_moves_268 rfl rfl ?_
      refine G.bipush X 272 dL_moves_270 rfl (by decide) ?_
      refine GS.set X hO ml_L_19 275 dL_moves_272 rfl (set_6 (i := u) (by omega)) (by omega) (by decide) (by decide) ⟨Nat.zero_le _, Nat.zero_le _⟩ (Nat.le_of_ble_eq_true rfl) ?_
      refine G.if_ne X 306 278 dL_moves_275 (by decide) rfl (by omega) (fun hc275 => by exfalso; omega) (fun hc275 => ?_)
      refine G.aload_n X 279 dL_moves_278 rfl rfl ?_
      refine G.iload X 281 dL_moves_279 rfl rfl ?_
      refine G.bipush X 283 dL_moves_281 rfl (by decide) ?_
      refine GS.set X hO ml_L_19 286 dL_moves_283 rfl (set_6 (i := v) (by omega)) (by omega) (by decide) (by decide) ⟨Nat.zero_le _, Nat.zero_le _⟩ (Nat.le_of_ble_eq_true rfl) ?_
      refine G.if_ne X 306 289 dL_moves_286 (by decide) rfl (by omega) (fun hc286 => by exfalso; omega) (fun hc286 => ?_)
      refine G.aload_n X 290 dL_moves_289 rfl rfl ?_
      refine G.bipush X 292 dL_moves_290 rfl (by decide) ?_
      refine GS.count X hO ml_L_13 295 dL_moves_292 rfl (cnt_8) (by decide) (by decide) ⟨Nat.zero_le _, Nat.zero_le _⟩ (Nat.le_of_ble_eq_true rfl) (fun M hO => ?_)
      refine G.iload X 297 dL_moves_295 rfl rfl ?_
      refine G.iconst X 298 dL_moves_297 rfl ?_
      refine G.isub X 299 dL_moves_298 rfl ?_
      refine G.neF X 302 dL_moves_299 306 (by decide) rfl (f8) ?_
      refine G.iconst X 303 dL_moves_302 rfl ?_
      refine G.goto X 307 dL_moves_303 (by decide) ?_
      refine G.zret X dL_moves_307 ⟨Nat.le_refl _, Nat.le_refl _⟩ (Or.inr rfl) ⟨rfl, rfl, rfl, _, rfl, ?_⟩
      exact ⟨rfl, _, _, hO, Or.inr rfl⟩
  refine G.aload_n X 1 dL_moves_0 rfl rfl ?_
  refine G.bipush X 3 dL_moves_1 rfl (by decide) ?_
  refine GS.count X hO ml_L_13 6 dL_moves_3 rfl (cnt_8) (by decide) (by decide) ⟨Nat.zero_le _, Nat.zero_le _⟩ (Nat.le_of_ble_eq_true rfl) (fun M hO => ?_)
  refine G.istore (ls' := [_, _, _, _, _, _, _, _, _, _, _]) X 8 dL_moves_6 rfl (by decide) rfl ?_
  rcases (by omega : so = 0 ∨ so = 1 ∨ so = 2 ∨ so = 3) with e1 | e1 | e1 | e1
  · skip
    refine G.iload_n X 9 dL_moves_8 rfl rfl ?_
    refine G.if_ne X 107 12 dL_moves_9 (by decide) rfl (by omega) (fun hc9 => by exfalso; omega) (fun hc9 => ?_)
    rcases give_get hI.1 with ⟨hgv, hgd⟩ | ⟨t, r1, hgv, hJ1, hgd, ht0, ht⟩
    · skip
      refine G.aload_n X 13 dL_moves_12 rfl rfl ?_
      refine GS.giveOutN X hO ml_L_44 16 dL_moves_13 rfl (hgv)  (by decide) ⟨Nat.zero_le _, Nat.zero_le _⟩ (Nat.le_of_ble_eq_true rfl) (fun M hO => ?_)
      refine G.istore (ls' := [_, _, _, _, _, _, _, _, _, _, _]) X 18 dL_moves_16 rfl (by decide) rfl ?_
      refine G.iconst X 19 dL_moves_18 rfl ?_
      refine G.istore (ls' := [_, _, _, _, _, _, _, _, _, _, _]) X 21 dL_moves_19 rfl (by decide) rfl ?_
      exact L21 (nC r) 0 _ _ r h M (by omega) (Or.inl ⟨rfl, rfl⟩) (by omega) hgd (Or.inl ⟨rfl, rfl⟩) hO
    · skip
      refine G.aload_n X 13 dL_moves_12 rfl rfl ?_
      refine GS.giveOutS X hO ml_L_44 16 dL_moves_13 rfl (hgv) (hJ1)  (by decide) ⟨Nat.zero_le _, Nat.zero_le _⟩ (Nat.le_of_ble_eq_true rfl) (fun M hO => ?_)
      refine G.istore (ls' := [_, _, _, _, _, _, _, _, _, _, _]) X 18 dL_moves_16 rfl (by decide) rfl ?_
      refine G.iconst X 19 dL_moves_18 rfl ?_
      refine G.istore (ls' := [_, _, _, _, _, _, _, _, _, _, _]) X 21 dL_moves_19 rfl (by decide) rfl ?_
      exact L21 (nC r1) 0 _ _ r1 _ M (by omega) (Or.inr ⟨ht0, ht⟩) (by omega) hgd (Or.inr rfl) hO
  · skip
    refine G.iload_n X 9 dL_moves_8 rfl rfl ?_
    refine G.if_ne X 107 12 dL_moves_9 (by decide) rfl (by omega) (fun hc9 => ?_) (fun hc9 => by exfalso; omega)
    refine G.iload_n X 108 dL_moves_107 rfl rfl ?_
    refine G.iconst X 109 dL_moves_108 rfl ?_
    refine G.icmp_ne X 308 112 dL_moves_109 (by decide) rfl (by omega) (by omega) (fun hc109 => by exfalso; omega) (fun hc109 => ?_)
    by_cases hc0 : r 7 = 0
    · skip
      refine G.aload_n X 113 dL_moves_112 rfl rfl ?_
      refine G.bipush X 115 dL_moves_113 rfl (by decide) ?_
      refine GS.count X hO ml_L_13 118 dL_moves_115 rfl (cnt_9) (by decide) (by decide) ⟨Nat.zero_le _, Nat.zero_le _⟩ (Nat.le_of_ble_eq_true rfl) (fun M hO => ?_)
      refine G.if_ne X 126 121 dL_moves_118 (by decide) rfl (by omega) (fun hc118 => by exfalso; omega) (fun hc118 => ?_)
      refine G.bipush X 123 dL_moves_121 rfl (by decide) ?_
      refine G.goto X 141 dL_moves_123 (by decide) ?_
      exact L141 _ M (by omega) hO
    · skip
      refine G.aload_n X 113 dL_moves_112 rfl rfl ?_
      refine G.bipush X 115 dL_moves_113 rfl (by decide) ?_
      refine GS.count X hO ml_L_13 118 dL_moves_115 rfl (cnt_9) (by decide) (by decide) ⟨Nat.zero_le _, Nat.zero_le _⟩ (Nat.le_of_ble_eq_true rfl) (fun M hO => ?_)
      refine G.if_ne X 126 121 dL_moves_118 (by decide) rfl (by omega) (fun hc118 => ?_) (fun hc118 => by exfalso; omega)
      refine G.aload_n X 127 dL_moves_126 rfl rfl ?_
      refine G.iload_n X 128 dL_moves_127 rfl rfl ?_
      refine G.aload_n X 129 dL_moves_128 rfl rfl ?_
      refine G.bipush X 131 dL_moves_129 rfl (by decide) ?_
      refine GS.count X hO ml_L_13 134 dL_moves_131 rfl (cnt_9) (by decide) (by decide) ⟨Nat.zero_le _, Nat.zero_le _⟩ (Nat.le_of_ble_eq_true rfl) (fun M hO => ?_)
      refine GS.low X ml_L_52 137 dL_moves_134 rfl (by omega) (by decide) ⟨Nat.zero_le _, Nat.zero_le _⟩ (Nat.le_of_ble_eq_true rfl) (fun j134 hj134 => ?_)
      rcases hV.s4 (s := j134) (by omega) with e4 | ⟨m, e4, hm⟩
      · skip
        refine G.iconst X 138 dL_moves_137 rfl ?_
        refine GS.site X hO ml_L_23 141 dL_moves_138 rfl (sit_4z (i := j134) (by omega) (by omega)) (by omega) (by decide) (by decide) ⟨Nat.zero_le _, Nat.zero_le _⟩ (Nat.le_of_ble_eq_true rfl) ?_
        exact L141 _ M (by omega) hO
      · skip
        refine G.iconst X 138 dL_moves_137 rfl ?_
        refine GS.site X hO ml_L_23 141 dL_moves_138 rfl (sit_4p (i := j134) (j := m) (by omega) (by omega)) (by omega) (by decide) (by decide) ⟨Nat.zero_le _, Nat.zero_le _⟩ (Nat.le_of_ble_eq_true rfl) ?_
        exact L141 _ M (by omega) hO
  · skip
    refine G.iload_n X 9 dL_moves_8 rfl rfl ?_
    refine G.if_ne X 107 12 dL_moves_9 (by decide) rfl (by omega) (fun hc9 => ?_) (fun hc9 => by exfalso; omega)
    refine G.iload_n X 108 dL_moves_107 rfl rfl ?_
    refine G.iconst X 109 dL_moves_108 rfl ?_
    refine G.icmp_ne X 308 112 dL_moves_109 (by decide) rfl (by omega) (by omega) (fun hc109 => ?_) (fun hc109 => by exfalso; omega)
    by_cases hz : r 7 = 0 ∨ r 6 = 0
    · skip
      refine G.aload_n X 309 dL_moves_308 rfl rfl ?_
      refine G.bipush X 311 dL_moves_309 rfl (by decide) ?_
      refine GS.count X hO ml_L_13 314 dL_moves_311 rfl (cnt_9) (by decide) (by decide) ⟨Nat.zero_le _, Nat.zero_le _⟩ (Nat.le_of_ble_eq_true rfl) (fun M hO => ?_)
      refine G.if_eq X 326 317 dL_moves_314 (by decide) rfl (by omega) (fun hc314 => ?_) (fun hc314 => ?_)
      · refine G.aload_n X 327 dL_moves_326 rfl rfl ?_
        refine G.aload_n X 328 dL_moves_327 rfl rfl ?_
        refine G.bipush X 330 dL_moves_328 rfl (by decide) ?_
        refine GS.count X hO ml_L_13 333 dL_moves_330 rfl (cnt_9) (by decide) (by decide) ⟨Nat.zero_le _, Nat.zero_le _⟩ (Nat.le_of_ble_eq_true rfl) (fun M hO => ?_)
        refine GS.takeBackN X hO ml_L_58 336 dL_moves_333 rfl (take_no (by omega)) (by omega) (by decide) ⟨Nat.zero_le _, Nat.zero_le _⟩ (Nat.le_of_ble_eq_true rfl) (fun M hO => ?_)
        refine G.iconst X 337 dL_moves_336 rfl ?_
        refine G.icmp_ne X 359 340 dL_moves_337 (by decide) rfl (by omega) (by omega) (fun hc337 => by exact absurd hc337 (by decide)) (fun hc337 => ?_)
        refine G.aload_n X 341 dL_moves_340 rfl rfl ?_
        refine G.aload_n X 342 dL_moves_341 rfl rfl ?_
        refine G.bipush X 344 dL_moves_342 rfl (by decide) ?_
        refine GS.count X hO ml_L_13 347 dL_moves_344 rfl (cnt_7) (by decide) (by decide) ⟨Nat.zero_le _, Nat.zero_le _⟩ (Nat.le_of_ble_eq_true rfl) (fun M hO => ?_)
        refine G.iconst X 348 dL_moves_347 rfl ?_
        refine GS.bringN X hO ml_L_61 351 dL_moves_348 rfl (bring_no (by omega)) (by omega) (by decide) (by decide) ⟨Nat.zero_le _, Nat.zero_le _⟩ (Nat.le_of_ble_eq_true rfl) (fun M hO => ?_)
        refine G.iconst X 352 dL_moves_351 rfl ?_
        refine G.icmp_ne X 359 355 dL_moves_352 (by decide) rfl (by omega) (by omega) (fun hc352 => by exact absurd hc352 (by decide)) (fun hc352 => ?_)
        refine G.iconst X 356 dL_moves_355 rfl ?_
        refine G.goto X 360 dL_moves_356 (by decide) ?_
        refine G.zret X dL_moves_360 ⟨Nat.le_refl _, Nat.le_refl _⟩ (Or.inr rfl) ⟨rfl, rfl, rfl, _, rfl, ?_⟩
        exact ⟨rfl, r, h, hO, Or.inl ⟨rfl, rfl⟩⟩
      · refine G.aload_n X 318 dL_moves_317 rfl rfl ?_
        refine G.bipush X 320 dL_moves_318 rfl (by decide) ?_
        refine GS.count X hO ml_L_13 323 dL_moves_320 rfl (cnt_7) (by decide) (by decide) ⟨Nat.zero_le _, Nat.zero_le _⟩ (Nat.le_of_ble_eq_true rfl) (fun M hO => ?_)
        refine G.if_ne X 361 326 dL_moves_323 (by decide) rfl (by omega) (fun hc323 => by exfalso; omega) (fun hc323 => ?_)
        refine G.aload_n X 327 dL_moves_326 rfl rfl ?_
        refine G.aload_n X 328 dL_moves_327 rfl rfl ?_
        refine G.bipush X 330 dL_moves_328 rfl (by decide) ?_
        refine GS.count X hO ml_L_13 333 dL_moves_330 rfl (cnt_9) (by decide) (by decide) ⟨Nat.zero_le _, Nat.zero_le _⟩ (Nat.le_of_ble_eq_true rfl) (fun M hO => ?_)
        refine GS.takeBackN X hO ml_L_58 336 dL_moves_333 rfl (take_no (by omega)) (by omega) (by decide) ⟨Nat.zero_le _, Nat.zero_le _⟩ (Nat.le_of_ble_eq_true rfl) (fun M hO => ?_)
        refine G.iconst X 337 dL_moves_336 rfl ?_
        refine G.icmp_ne X 359 340 dL_moves_337 (by decide) rfl (by omega) (by omega) (fun hc337 => by exact absurd hc337 (by decide)) (fun hc337 => ?_)
        refine G.aload_n X 341 dL_moves_340 rfl rfl ?_
        refine G.aload_n X 342 dL_moves_341 rfl rfl ?_
        refine G.bipush X 344 dL_moves_342 rfl (by decide) ?_
        refine GS.count X hO ml_L_13 347 dL_moves_344 rfl (cnt_7) (by decide) (by decide) ⟨Nat.zero_le _, Nat.zero_le _⟩ (Nat.le_of_ble_eq_true rfl) (fun M hO => ?_)
        refine G.iconst X 348 dL_moves_347 rfl ?_
        refine GS.bringN X hO ml_L_61 351 dL_moves_348 rfl (bring_no (by omega)) (by omega) (by decide) (by decide) ⟨Nat.zero_le _, Nat.zero_le _⟩ (Nat.le_of_ble_eq_true rfl) (fun M hO => ?_)
        refine G.iconst X 352 dL_moves_351 rfl ?_
        refine G.icmp_ne X 359 355 dL_moves_352 (by decide) rfl (by omega) (by omega) (fun hc352 => by exact absurd hc352 (by decide)) (fun hc352 => ?_)
        refine G.iconst X 356 dL_moves_355 rfl ?_
        refine G.goto X 360 dL_moves_356 (by decide) ?_
        refine G.zret X dL_moves_360 ⟨Nat.le_refl _, Nat.le_refl _⟩ (Or.inr rfl) ⟨rfl, rfl, rfl, _, rfl, ?_⟩
        exact ⟨rfl, r, h, hO, Or.inl ⟨rfl, rfl⟩⟩
    · skip
      refine G.aload_n X 309 dL_moves_308 rfl rfl ?_
      refine G.bipush X 311 dL_moves_309 rfl (by decide) ?_
      refine GS.count X hO ml_L_13 314 dL_moves_311 rfl (cnt_9) (by decide) (by decide) ⟨Nat.zero_le _, Nat.zero_le _⟩ (Nat.le_of_ble_eq_true rfl) (fun M hO => ?_)
      refine G.if_eq X 326 317 dL_moves_314 (by decide) rfl (by omega) (fun hc314 => by exfalso; omega) (fun hc314 => ?_)
      refine G.aload_n X 318 dL_moves_317 rfl rfl ?_
      refine G.bipush X 320 dL_moves_318 rfl (by decide) ?_
      refine GS.count X hO ml_L_13 323 dL_moves_320 rfl (cnt_7) (by decide) (by decide) ⟨Nat.zero_le _, Nat.zero_le _⟩ (Nat.le_of_ble_eq_true rfl) (fun M hO => ?_)
      refine G.if_ne X 361 326 dL_moves_323 (by decide) rfl (by omega) (fun hc323 => ?_) (fun hc323 => by exfalso; omega)
      refine G.iload_n X 362 dL_moves_361 rfl rfl ?_
      refine G.aload_n X 363 dL_moves_362 rfl rfl ?_
      refine G.bipush X 365 dL_moves_363 rfl (by decide) ?_
      refine GS.count X hO ml_L_13 368 dL_moves_365 rfl (cnt_9) (by decide) (by decide) ⟨Nat.zero_le _, Nat.zero_le _⟩ (Nat.le_of_ble_eq_true rfl) (fun M hO => ?_)
      refine GS.low X ml_L_52 371 dL_moves_368 rfl (by omega) (by decide) ⟨Nat.zero_le _, Nat.zero_le _⟩ (Nat.le_of_ble_eq_true rfl) (fun j368 hj368 => ?_)
      refine G.istore (ls' := [_, _, _, _, _, _, _, _, _, _, _]) X 373 dL_moves_371 rfl (by decide) rfl ?_
      refine G.aload_n X 374 dL_moves_373 rfl rfl ?_
      refine G.iload X 376 dL_moves_374 rfl rfl ?_
      refine G.iconst X 377 dL_moves_376 rfl ?_
      rcases hV.s4 (s := j368) (by omega) with e4 | ⟨m, e4, hm⟩
      · skip
        refine GS.site X hO ml_L_23 380 dL_moves_377 rfl (sit_4z (i := j368) (by omega) (by omega)) (by omega) (by decide) (by decide) ⟨Nat.zero_le _, Nat.zero_le _⟩ (Nat.le_of_ble_eq_true rfl) ?_
        refine G.istore (ls' := [_, _, _, _, _, _, _, _, _, _, _]) X 382 dL_moves_380 rfl (by decide) rfl ?_
        refine G.iload_n X 383 dL_moves_382 rfl rfl ?_
        refine G.iconst X 384 dL_moves_383 rfl ?_
        refine G.icmp_ne X 454 387 dL_moves_384 (by decide) rfl (by omega) (by omega) (fun hc384 => by exfalso; omega) (fun hc384 => ?_)
        refine G.aload_n X 388 dL_moves_387 rfl rfl ?_
        refine G.iload X 390 dL_moves_388 rfl rfl ?_
        refine GS.takeBackN X hO ml_L_58 393 dL_moves_390 rfl (take_z (by omega) e4) (by omega) (by decide) ⟨Nat.zero_le _, Nat.zero_le _⟩ (Nat.le_of_ble_eq_true rfl) (fun M hO => ?_)
        refine G.iload X 395 dL_moves_393 rfl rfl ?_
        refine G.if_ge X 403 398 dL_moves_395 (by decide) rfl (by omega) (fun hc395 => by exact absurd hc395 (by decide)) (fun hc395 => ?_)
        refine G.bipush X 400 dL_moves_398 rfl (by decide) ?_
        refine G.goto X 405 dL_moves_400 (by decide) ?_
        refine G.icmp_ne X 452 408 dL_moves_405 (by decide) rfl (by omega) (by omega) (fun hc405 => by exact absurd hc405 (by decide)) (fun hc405 => ?_)
        refine G.aload_n X 409 dL_moves_408 rfl rfl ?_
        refine G.iload X 411 dL_moves_409 rfl rfl ?_
        refine G.iconst X 412 dL_moves_411 rfl ?_
        refine GS.site X hO ml_L_23 415 dL_moves_412 rfl (sit_4z (i := j368) (by omega) (by omega)) (by omega) (by decide) (by decide) ⟨Nat.zero_le _, Nat.zero_le _⟩ (Nat.le_of_ble_eq_true rfl) ?_
        refine G.bipush X 417 dL_moves_415 rfl (by decide) ?_
        refine G.icmp_ne X 452 420 dL_moves_417 (by decide) rfl (by omega) (by omega) (fun hc417 => by exact absurd hc417 (by decide)) (fun hc417 => ?_)
        refine G.iload X 422 dL_moves_420 rfl rfl ?_
        refine G.if_lt X 448 425 dL_moves_422 (by decide) rfl (by omega) (fun hc422 => ?_) (fun hc422 => by exact absurd hc422 (by decide))
        refine G.iconst X 449 dL_moves_448 rfl ?_
        refine G.goto X 453 dL_moves_449 (by decide) ?_
        refine G.zret X dL_moves_453 ⟨Nat.le_refl _, Nat.le_refl _⟩ (Or.inr rfl) ⟨rfl, rfl, rfl, _, rfl, ?_⟩
        exact ⟨rfl, r, h, hO, Or.inl ⟨rfl, rfl⟩⟩
      · obtain ⟨r1, hr1⟩ : ∃ r1, r1 = backR r j368 := ⟨_, rfl⟩
        have hJ1 : Jr r1 := by
          rw [hr1]
          exact hI.1.back (by omega) e4
        have q7 : r1 7 = r 7 := by
          rw [hr1]
          exact backR_0 (by decide)
        have q6 : r1 6 = r 6 := by
          rw [hr1]
          exact backR_0 (by decide)
        have b4 : fC r1 j368 4 = 0 := by
          rw [hr1, backR_C (by rw [hasN_is e4]; omega) (by decide), if_pos (by omega)]
        have b5 : fS r1 m 5 = 0 := by
          rw [hr1, backR_S (by omega) (by decide), hasN_is e4, if_pos (by omega)]
        have b6 : fS r1 m 6 = 0 := by
          rw [hr1, backR_S (by omega) (by decide), hasN_is e4, if_pos (by omega)]
        refine GS.site X hO ml_L_23 380 dL_moves_377 rfl (sit_4p (i := j368) (j := m) (by omega) (by omega)) (by omega) (by decide) (by decide) ⟨Nat.zero_le _, Nat.zero_le _⟩ (Nat.le_of_ble_eq_true rfl) ?_
        refine G.istore (ls' := [_, _, _, _, _, _, _, _, _, _, _]) X 382 dL_moves_380 rfl (by decide) rfl ?_
        refine G.iload_n X 383 dL_moves_382 rfl rfl ?_
        refine G.iconst X 384 dL_moves_383 rfl ?_
        refine G.icmp_ne X 454 387 dL_moves_384 (by decide) rfl (by omega) (by omega) (fun hc384 => by exfalso; omega) (fun hc384 => ?_)
        refine G.aload_n X 388 dL_moves_387 rfl rfl ?_
        refine G.iload X 390 dL_moves_388 rfl rfl ?_
        refine GS.takeBackS X hO ml_L_58 393 dL_moves_390 rfl ((take_s (by omega) e4).trans (by rw [hr1])) (hJ1) (by omega) (by decide) ⟨Nat.zero_le _, Nat.zero_le _⟩ (Nat.le_of_ble_eq_true rfl) (fun M hO => ?_)
        refine G.iload X 395 dL_moves_393 rfl rfl ?_
        refine G.if_ge X 403 398 dL_moves_395 (by decide) rfl (by omega) (fun hc395 => ?_) (fun hc395 => by omega)
        refine G.iload X 405 dL_moves_403 rfl rfl ?_
        refine G.icmp_ne X 452 408 dL_moves_405 (by decide) rfl (by omega) (by omega) (fun hc405 => by exfalso; omega) (fun hc405 => ?_)
        refine G.aload_n X 409 dL_moves_408 rfl rfl ?_
        refine G.iload X 411 dL_moves_409 rfl rfl ?_
        refine G.iconst X 412 dL_moves_411 rfl ?_
        refine GS.site X hO ml_L_23 415 dL_moves_412 rfl (sit_4z (i := j368) (by omega) b4) (by omega) (by decide) (by decide) ⟨Nat.zero_le _, Nat.zero_le _⟩ (Nat.le_of_ble_eq_true rfl) ?_
        refine G.bipush X 417 dL_moves_415 rfl (by decide) ?_
        refine G.icmp_ne X 452 420 dL_moves_417 (by decide) rfl (by omega) (by omega) (fun hc417 => by exact absurd hc417 (by decide)) (fun hc417 => ?_)
        refine G.iload X 422 dL_moves_420 rfl rfl ?_
        refine G.if_lt X 448 425 dL_moves_422 (by decide) rfl (by omega) (fun hc422 => by omega) (fun hc422 => ?_)
        refine G.aload_n X 426 dL_moves_425 rfl rfl ?_
        refine G.iload X 428 dL_moves_426 rfl rfl ?_
        refine G.iconst X 429 dL_moves_428 rfl ?_
        refine GS.set X hO ml_L_19 432 dL_moves_429 rfl (set_5z (i := m) (by omega) b5) (by omega) (by decide) (by decide) ⟨Nat.zero_le _, Nat.zero_le _⟩ (Nat.le_of_ble_eq_true rfl) ?_
        refine G.bipush X 434 dL_moves_432 rfl (by decide) ?_
        refine G.icmp_ne X 452 437 dL_moves_434 (by decide) rfl (by omega) (by omega) (fun hc434 => by exact absurd hc434 (by decide)) (fun hc434 => ?_)
        refine G.aload_n X 438 dL_moves_437 rfl rfl ?_
        refine G.iload X 440 dL_moves_438 rfl rfl ?_
        refine G.bipush X 442 dL_moves_440 rfl (by decide) ?_
        refine GS.set X hO ml_L_19 445 dL_moves_442 rfl (set_6 (i := m) (by omega)) (by omega) (by decide) (by decide) ⟨Nat.zero_le _, Nat.zero_le _⟩ (Nat.le_of_ble_eq_true rfl) ?_
        refine G.if_ne X 452 448 dL_moves_445 (by decide) rfl (by omega) (fun hc445 => by exfalso; omega) (fun hc445 => ?_)
        refine G.iconst X 449 dL_moves_448 rfl ?_
        refine G.goto X 453 dL_moves_449 (by decide) ?_
        refine G.zret X dL_moves_453 ⟨Nat.le_refl _, Nat.le_refl _⟩ (Or.inr rfl) ⟨rfl, rfl, rfl, _, rfl, ?_⟩
        exact ⟨rfl, _, _, hO, Or.inr rfl⟩
  · skip
    refine G.iload_n X 9 dL_moves_8 rfl rfl ?_
    refine G.if_ne X 107 12 dL_moves_9 (by decide) rfl (by omega) (fun hc9 => ?_) (fun hc9 => by exfalso; omega)
    refine G.iload_n X 108 dL_moves_107 rfl rfl ?_
    refine G.iconst X 109 dL_moves_108 rfl ?_
    refine G.icmp_ne X 308 112 dL_moves_109 (by decide) rfl (by omega) (by omega) (fun hc109 => ?_) (fun hc109 => by exfalso; omega)
    by_cases hz : r 7 = 0 ∨ r 6 = 0
    · skip
      refine G.aload_n X 309 dL_moves_308 rfl rfl ?_
      refine G.bipush X 311 dL_moves_309 rfl (by decide) ?_
      refine GS.count X hO ml_L_13 314 dL_moves_311 rfl (cnt_9) (by decide) (by decide) ⟨Nat.zero_le _, Nat.zero_le _⟩ (Nat.le_of_ble_eq_true rfl) (fun M hO => ?_)
      refine G.if_eq X 326 317 dL_moves_314 (by decide) rfl (by omega) (fun hc314 => ?_) (fun hc314 => ?_)
      · refine G.aload_n X 327 dL_moves_326 rfl rfl ?_
        refine G.aload_n X 328 dL_moves_327 rfl rfl ?_
        refine G.bipush X 330 dL_moves_328 rfl (by decide) ?_
        refine GS.count X hO ml_L_13 333 dL_moves_330 rfl (cnt_9) (by decide) (by decide) ⟨Nat.zero_le _, Nat.zero_le _⟩ (Nat.le_of_ble_eq_true rfl) (fun M hO => ?_)
        refine GS.takeBackN X hO ml_L_58 336 dL_moves_333 rfl (take_no (by omega)) (by omega) (by decide) ⟨Nat.zero_le _, Nat.zero_le _⟩ (Nat.le_of_ble_eq_true rfl) (fun M hO => ?_)
        refine G.iconst X 337 dL_moves_336 rfl ?_
        refine G.icmp_ne X 359 340 dL_moves_337 (by decide) rfl (by omega) (by omega) (fun hc337 => by exact absurd hc337 (by decide)) (fun hc337 => ?_)
        refine G.aload_n X 341 dL_moves_340 rfl rfl ?_
        refine G.aload_n X 342 dL_moves_341 rfl rfl ?_
        refine G.bipush X 344 dL_moves_342 rfl (by decide) ?_
        refine GS.count X hO ml_L_13 347 dL_moves_344 rfl (cnt_7) (by decide) (by decide) ⟨Nat.zero_le _, Nat.zero_le _⟩ (Nat.le_of_ble_eq_true rfl) (fun M hO => ?_)
        refine G.iconst X 348 dL_moves_347 rfl ?_
        refine GS.bringN X hO ml_L_61 351 dL_moves_348 rfl (bring_no (by omega)) (by omega) (by decide) (by decide) ⟨Nat.zero_le _, Nat.zero_le _⟩ (Nat.le_of_ble_eq_true rfl) (fun M hO => ?_)
        refine G.iconst X 352 dL_moves_351 rfl ?_
        refine G.icmp_ne X 359 355 dL_moves_352 (by decide) rfl (by omega) (by omega) (fun hc352 => by exact absurd hc352 (by decide)) (fun hc352 => ?_)
        refine G.iconst X 356 dL_moves_355 rfl ?_
        refine G.goto X 360 dL_moves_356 (by decide) ?_
        refine G.zret X dL_moves_360 ⟨Nat.le_refl _, Nat.le_refl _⟩ (Or.inr rfl) ⟨rfl, rfl, rfl, _, rfl, ?_⟩
        exact ⟨rfl, r, h, hO, Or.inl ⟨rfl, rfl⟩⟩
      · refine G.aload_n X 318 dL_moves_317 rfl rfl ?_
        refine G.bipush X 320 dL_moves_318 rfl (by decide) ?_
        refine GS.count X hO ml_L_13 323 dL_moves_320 rfl (cnt_7) (by decide) (by decide) ⟨Nat.zero_le _, Nat.zero_le _⟩ (Nat.le_of_ble_eq_true rfl) (fun M hO => ?_)
        refine G.if_ne X 361 326 dL_moves_323 (by decide) rfl (by omega) (fun hc323 => by exfalso; omega) (fun hc323 => ?_)
        refine G.aload_n X 327 dL_moves_326 rfl rfl ?_
        refine G.aload_n X 328 dL_moves_327 rfl rfl ?_
        refine G.bipush X 330 dL_moves_328 rfl (by decide) ?_
        refine GS.count X hO ml_L_13 333 dL_moves_330 rfl (cnt_9) (by decide) (by decide) ⟨Nat.zero_le _, Nat.zero_le _⟩ (Nat.le_of_ble_eq_true rfl) (fun M hO => ?_)
        refine GS.takeBackN X hO ml_L_58 336 dL_moves_333 rfl (take_no (by omega)) (by omega) (by decide) ⟨Nat.zero_le _, Nat.zero_le _⟩ (Nat.le_of_ble_eq_true rfl) (fun M hO => ?_)
        refine G.iconst X 337 dL_moves_336 rfl ?_
        refine G.icmp_ne X 359 340 dL_moves_337 (by decide) rfl (by omega) (by omega) (fun hc337 => by exact absurd hc337 (by decide)) (fun hc337 => ?_)
        refine G.aload_n X 341 dL_moves_340 rfl rfl ?_
        refine G.aload_n X 342 dL_moves_341 rfl rfl ?_
        refine G.bipush X 344 dL_moves_342 rfl (by decide) ?_
        refine GS.count X hO ml_L_13 347 dL_moves_344 rfl (cnt_7) (by decide) (by decide) ⟨Nat.zero_le _, Nat.zero_le _⟩ (Nat.le_of_ble_eq_true rfl) (fun M hO => ?_)
        refine G.iconst X 348 dL_moves_347 rfl ?_
        refine GS.bringN X hO ml_L_61 351 dL_moves_348 rfl (bring_no (by omega)) (by omega) (by decide) (by decide) ⟨Nat.zero_le _, Nat.zero_le _⟩ (Nat.le_of_ble_eq_true rfl) (fun M hO => ?_)
        refine G.iconst X 352 dL_moves_351 rfl ?_
        refine G.icmp_ne X 359 355 dL_moves_352 (by decide) rfl (by omega) (by omega) (fun hc352 => by exact absurd hc352 (by decide)) (fun hc352 => ?_)
        refine G.iconst X 356 dL_moves_355 rfl ?_
        refine G.goto X 360 dL_moves_356 (by decide) ?_
        refine G.zret X dL_moves_360 ⟨Nat.le_refl _, Nat.le_refl _⟩ (Or.inr rfl) ⟨rfl, rfl, rfl, _, rfl, ?_⟩
        exact ⟨rfl, r, h, hO, Or.inl ⟨rfl, rfl⟩⟩
    · skip
      refine G.aload_n X 309 dL_moves_308 rfl rfl ?_
      refine G.bipush X 311 dL_moves_309 rfl (by decide) ?_
      refine GS.count X hO ml_L_13 314 dL_moves_311 rfl (cnt_9) (by decide) (by decide) ⟨Nat.zero_le _, Nat.zero_le _⟩ (Nat.le_of_ble_eq_true rfl) (fun M hO => ?_)
      refine G.if_eq X 326 317 dL_moves_314 (by decide) rfl (by omega) (fun hc314 => by exfalso; omega) (fun hc314 => ?_)
      refine G.aload_n X 318 dL_moves_317 rfl rfl ?_
      refine G.bipush X 320 dL_moves_318 rfl (by decide) ?_
      refine GS.count X hO ml_L_13 323 dL_moves_320 rfl (cnt_7) (by decide) (by decide) ⟨Nat.zero_le _, Nat.zero_le _⟩ (Nat.le_of_ble_eq_true rfl) (fun M hO => ?_)
      refine G.if_ne X 361 326 dL_moves_323 (by decide) rfl (by omega) (fun hc323 => ?_) (fun hc323 => by exfalso; omega)
      refine G.iload_n X 362 dL_moves_361 rfl rfl ?_
      refine G.aload_n X 363 dL_moves_362 rfl rfl ?_
      refine G.bipush X 365 dL_moves_363 rfl (by decide) ?_
      refine GS.count X hO ml_L_13 368 dL_moves_365 rfl (cnt_9) (by decide) (by decide) ⟨Nat.zero_le _, Nat.zero_le _⟩ (Nat.le_of_ble_eq_true rfl) (fun M hO => ?_)
      refine GS.low X ml_L_52 371 dL_moves_368 rfl (by omega) (by decide) ⟨Nat.zero_le _, Nat.zero_le _⟩ (Nat.le_of_ble_eq_true rfl) (fun j368 hj368 => ?_)
      refine G.istore (ls' := [_, _, _, _, _, _, _, _, _, _, _]) X 373 dL_moves_371 rfl (by decide) rfl ?_
      refine G.aload_n X 374 dL_moves_373 rfl rfl ?_
      refine G.iload X 376 dL_moves_374 rfl rfl ?_
      refine G.iconst X 377 dL_moves_376 rfl ?_
      rcases hV.s4 (s := j368) (by omega) with e4 | ⟨m, e4, hm⟩
      · skip
        refine GS.site X hO ml_L_23 380 dL_moves_377 rfl (sit_4z (i := j368) (by omega) (by omega)) (by omega) (by decide) (by decide) ⟨Nat.zero_le _, Nat.zero_le _⟩ (Nat.le_of_ble_eq_true rfl) ?_
        refine G.istore (ls' := [_, _, _, _, _, _, _, _, _, _, _]) X 382 dL_moves_380 rfl (by decide) rfl ?_
        refine G.iload_n X 383 dL_moves_382 rfl rfl ?_
        refine G.iconst X 384 dL_moves_383 rfl ?_
        refine G.icmp_ne X 454 387 dL_moves_384 (by decide) rfl (by omega) (by omega) (fun hc384 => ?_) (fun hc384 => by exfalso; omega)
        refine G.iload_n X 455 dL_moves_454 rfl rfl ?_
        refine G.aload_n X 456 dL_moves_455 rfl rfl ?_
        refine G.bipush X 458 dL_moves_456 rfl (by decide) ?_
        refine GS.count X hO ml_L_13 461 dL_moves_458 rfl (cnt_7) (by decide) (by decide) ⟨Nat.zero_le _, Nat.zero_le _⟩ (Nat.le_of_ble_eq_true rfl) (fun M hO => ?_)
        refine GS.low X ml_L_52 464 dL_moves_461 rfl (by omega) (by decide) ⟨Nat.zero_le _, Nat.zero_le _⟩ (Nat.le_of_ble_eq_true rfl) (fun j461 hj461 => ?_)
        refine G.istore (ls' := [_, _, _, _, _, _, _, _, _, _, _]) X 466 dL_moves_464 rfl (by decide) rfl ?_
        have vj := hV.2.1 j461 (by omega)
        unfold Vset at vj
        have vk := hV.2.2 j368 (by omega)
        unfold Vsite at vk
        rcases hV.i5 (i := j461) (by omega) with h5 | ⟨y, h5, hy⟩
        · skip
          refine G.aload_n X 467 dL_moves_466 rfl rfl ?_
          refine G.iload X 469 dL_moves_467 rfl rfl ?_
          refine G.iconst X 470 dL_moves_469 rfl ?_
          refine GS.set X hO ml_L_19 473 dL_moves_470 rfl (set_5z (i := j461) (by omega) (by omega)) (by omega) (by decide) (by decide) ⟨Nat.zero_le _, Nat.zero_le _⟩ (Nat.le_of_ble_eq_true rfl) ?_
          refine G.bipush X 475 dL_moves_473 rfl (by decide) ?_
          refine G.icmp_ne X 519 478 dL_moves_475 (by decide) rfl (by omega) (by omega) (fun hc475 => by exact absurd hc475 (by decide)) (fun hc475 => ?_)
          refine G.iload X 480 dL_moves_478 rfl rfl ?_
          refine G.if_ge X 519 483 dL_moves_480 (by decide) rfl (by omega) (fun hc480 => by exact absurd hc480 (by decide)) (fun hc480 => ?_)
          by_cases hh : r 0 < fC r j368 3
          · skip
            refine G.aload_n X 484 dL_moves_483 rfl rfl ?_
            refine G.iconst X 485 dL_moves_484 rfl ?_
            refine GS.count X hO ml_L_13 488 dL_moves_485 rfl (cnt_0) (by decide) (by decide) ⟨Nat.zero_le _, Nat.zero_le _⟩ (Nat.le_of_ble_eq_true rfl) (fun M hO => ?_)
            refine G.aload_n X 489 dL_moves_488 rfl rfl ?_
            refine G.iload X 491 dL_moves_489 rfl rfl ?_
            refine G.iconst X 492 dL_moves_491 rfl ?_
            refine GS.site X hO ml_L_23 495 dL_moves_492 rfl (sit_3 (i := j368) (by omega)) (by omega) (by decide) (by decide) ⟨Nat.zero_le _, Nat.zero_le _⟩ (Nat.le_of_ble_eq_true rfl) ?_
            refine G.icmp_ge X 519 498 dL_moves_495 (by decide) rfl (by omega) (by omega) (fun hc495 => by exfalso; omega) (fun hc495 => ?_)
            by_cases hp : fC r j368 1 ≤ fS r j461 0
            · obtain ⟨r1, hr1⟩ : ∃ r1, r1 = comeR r j461 j368 := ⟨_, rfl⟩
              have hJ1 : Jr r1 := by
                rw [hr1]
                exact hI.1.come (by omega) (by omega) h5 e4 hp hh
              have q7 : r1 7 = r 7 := by
                rw [hr1]
                exact comeR_0 (by decide)
              have b4 : fC r1 j368 4 = (j461 : Int) + 1 := by
                rw [hr1, comeR_C (by omega) (by decide), if_pos (by omega)]
              have hyz : yardZ r1 (nS r) = yardZ r (nS r) - 1 := by
                rw [hr1]
                exact yardZ_come n6b (by omega) h5
              refine G.aload_n X 499 dL_moves_498 rfl rfl ?_
              refine G.iload X 501 dL_moves_499 rfl rfl ?_
              refine G.iconst X 502 dL_moves_501 rfl ?_
              refine GS.set X hO ml_L_19 505 dL_moves_502 rfl (set_0 (i := j461) (by omega)) (by omega) (by decide) (by decide) ⟨Nat.zero_le _, Nat.zero_le _⟩ (Nat.le_of_ble_eq_true rfl) ?_
              refine G.aload_n X 506 dL_moves_505 rfl rfl ?_
              refine G.iload X 508 dL_moves_506 rfl rfl ?_
              refine G.iconst X 509 dL_moves_508 rfl ?_
              refine GS.site X hO ml_L_23 512 dL_moves_509 rfl (sit_1 (i := j368) (by omega)) (by omega) (by decide) (by decide) ⟨Nat.zero_le _, Nat.zero_le _⟩ (Nat.le_of_ble_eq_true rfl) ?_
              refine G.icmp_lt X 519 515 dL_moves_512 (by decide) rfl (by omega) (by omega) (fun hc512 => by exfalso; omega) (fun hc512 => ?_)
              refine G.iconst X 516 dL_moves_515 rfl ?_
              refine G.goto X 520 dL_moves_516 (by decide) ?_
              refine G.istore (ls' := [_, _, _, _, _, _, _, _, _, _, _]) X 522 dL_moves_520 rfl (by decide) rfl ?_
              refine G.aload_n X 523 dL_moves_522 rfl rfl ?_
              refine G.iload X 525 dL_moves_523 rfl rfl ?_
              refine G.iload X 527 dL_moves_525 rfl rfl ?_
              refine GS.bringS X hO ml_L_61 530 dL_moves_527 rfl ((bring_s (by omega) (by omega) h5 e4 hh hp).trans (by rw [hr1])) (hJ1) (by omega) (by omega) (by decide) ⟨Nat.zero_le _, Nat.zero_le _⟩ (Nat.le_of_ble_eq_true rfl) (fun M hO => ?_)
              refine G.iload X 532 dL_moves_530 rfl rfl ?_
              refine G.if_eq X 542 535 dL_moves_532 (by decide) rfl (by omega) (fun hc532 => by exact absurd hc532 (by decide)) (fun hc532 => ?_)
              refine G.iload X 537 dL_moves_535 rfl rfl ?_
              refine G.iconst X 538 dL_moves_537 rfl ?_
              refine G.isub X 539 dL_moves_538 rfl ?_
              refine G.goto X 544 dL_moves_539 (by decide) ?_
              refine G.neF X 547 dL_moves_544 568 (by decide) rfl (by rw [← hr1]; exact hyz) ?_
              refine G.iload X 549 dL_moves_547 rfl rfl ?_
              refine G.if_eq X 564 552 dL_moves_549 (by decide) rfl (by omega) (fun hc549 => by exact absurd hc549 (by decide)) (fun hc549 => ?_)
              refine G.aload_n X 553 dL_moves_552 rfl rfl ?_
              refine G.iload X 555 dL_moves_553 rfl rfl ?_
              refine G.iconst X 556 dL_moves_555 rfl ?_
              refine GS.site X hO ml_L_23 559 dL_moves_556 rfl (sit_4p (i := j368) (j := j461) (by omega) b4) (by omega) (by decide) (by decide) ⟨Nat.zero_le _, Nat.zero_le _⟩ (Nat.le_of_ble_eq_true rfl) ?_
              refine G.iload X 561 dL_moves_559 rfl rfl ?_
              refine G.icmp_ne X 568 564 dL_moves_561 (by decide) rfl (by omega) (by omega) (fun hc561 => by exfalso; omega) (fun hc561 => ?_)
              refine G.iconst X 565 dL_moves_564 rfl ?_
              refine G.goto X 569 dL_moves_565 (by decide) ?_
              refine G.zret X dL_moves_569 ⟨Nat.le_refl _, Nat.le_refl _⟩ (Or.inr rfl) ⟨rfl, rfl, rfl, _, rfl, ?_⟩
              exact ⟨rfl, _, _, hO, Or.inr rfl⟩
            · skip
              refine G.aload_n X 499 dL_moves_498 rfl rfl ?_
              refine G.iload X 501 dL_moves_499 rfl rfl ?_
              refine G.iconst X 502 dL_moves_501 rfl ?_
              refine GS.set X hO ml_L_19 505 dL_moves_502 rfl (set_0 (i := j461) (by omega)) (by omega) (by decide) (by decide) ⟨Nat.zero_le _, Nat.zero_le _⟩ (Nat.le_of_ble_eq_true rfl) ?_
              refine G.aload_n X 506 dL_moves_505 rfl rfl ?_
              refine G.iload X 508 dL_moves_506 rfl rfl ?_
              refine G.iconst X 509 dL_moves_508 rfl ?_
              refine GS.site X hO ml_L_23 512 dL_moves_509 rfl (sit_1 (i := j368) (by omega)) (by omega) (by decide) (by decide) ⟨Nat.zero_le _, Nat.zero_le _⟩ (Nat.le_of_ble_eq_true rfl) ?_
              refine G.icmp_lt X 519 515 dL_moves_512 (by decide) rfl (by omega) (by omega) (fun hc512 => ?_) (fun hc512 => by exfalso; omega)
              refine G.iconst X 520 dL_moves_519 rfl ?_
              refine G.istore (ls' := [_, _, _, _, _, _, _, _, _, _, _]) X 522 dL_moves_520 rfl (by decide) rfl ?_
              refine G.aload_n X 523 dL_moves_522 rfl rfl ?_
              refine G.iload X 525 dL_moves_523 rfl rfl ?_
              refine G.iload X 527 dL_moves_525 rfl rfl ?_
              refine GS.bringN X hO ml_L_61 530 dL_moves_527 rfl (bring_n (by omega) (by omega) (by omega)) (by omega) (by omega) (by decide) ⟨Nat.zero_le _, Nat.zero_le _⟩ (Nat.le_of_ble_eq_true rfl) (fun M hO => ?_)
              refine G.iload X 532 dL_moves_530 rfl rfl ?_
              refine G.if_eq X 542 535 dL_moves_532 (by decide) rfl (by omega) (fun hc532 => ?_) (fun hc532 => by exact absurd hc532 (by decide))
              refine G.bipush X 544 dL_moves_542 rfl (by decide) ?_
              refine G.icmp_ne X 568 547 dL_moves_544 (by decide) rfl (by omega) (by omega) (fun hc544 => by exact absurd hc544 (by decide)) (fun hc544 => ?_)
              refine G.iload X 549 dL_moves_547 rfl rfl ?_
              refine G.if_eq X 564 552 dL_moves_549 (by decide) rfl (by omega) (fun hc549 => ?_) (fun hc549 => by exact absurd hc549 (by decide))
              refine G.iconst X 565 dL_moves_564 rfl ?_
              refine G.goto X 569 dL_moves_565 (by decide) ?_
              refine G.zret X dL_moves_569 ⟨Nat.le_refl _, Nat.le_refl _⟩ (Or.inr rfl) ⟨rfl, rfl, rfl, _, rfl, ?_⟩
              exact ⟨rfl, r, h, hO, Or.inl ⟨rfl, rfl⟩⟩
          · skip
            refine G.aload_n X 484 dL_moves_483 rfl rfl ?_
            refine G.iconst X 485 dL_moves_484 rfl ?_
            refine GS.count X hO ml_L_13 488 dL_moves_485 rfl (cnt_0) (by decide) (by decide) ⟨Nat.zero_le _, Nat.zero_le _⟩ (Nat.le_of_ble_eq_true rfl) (fun M hO => ?_)
            refine G.aload_n X 489 dL_moves_488 rfl rfl ?_
            refine G.iload X 491 dL_moves_489 rfl rfl ?_
            refine G.iconst X 492 dL_moves_491 rfl ?_
            refine GS.site X hO ml_L_23 495 dL_moves_492 rfl (sit_3 (i := j368) (by omega)) (by omega) (by decide) (by decide) ⟨Nat.zero_le _, Nat.zero_le _⟩ (Nat.le_of_ble_eq_true rfl) ?_
            refine G.icmp_ge X 519 498 dL_moves_495 (by decide) rfl (by omega) (by omega) (fun hc495 => ?_) (fun hc495 => by exfalso; omega)
            refine G.iconst X 520 dL_moves_519 rfl ?_
            refine G.istore (ls' := [_, _, _, _, _, _, _, _, _, _, _]) X 522 dL_moves_520 rfl (by decide) rfl ?_
            refine G.aload_n X 523 dL_moves_522 rfl rfl ?_
            refine G.iload X 525 dL_moves_523 rfl rfl ?_
            refine G.iload X 527 dL_moves_525 rfl rfl ?_
            refine GS.bringN X hO ml_L_61 530 dL_moves_527 rfl (bring_n (by omega) (by omega) (by omega)) (by omega) (by omega) (by decide) ⟨Nat.zero_le _, Nat.zero_le _⟩ (Nat.le_of_ble_eq_true rfl) (fun M hO => ?_)
            refine G.iload X 532 dL_moves_530 rfl rfl ?_
            refine G.if_eq X 542 535 dL_moves_532 (by decide) rfl (by omega) (fun hc532 => ?_) (fun hc532 => by exact absurd hc532 (by decide))
            refine G.bipush X 544 dL_moves_542 rfl (by decide) ?_
            refine G.icmp_ne X 568 547 dL_moves_544 (by decide) rfl (by omega) (by omega) (fun hc544 => by exact absurd hc544 (by decide)) (fun hc544 => ?_)
            refine G.iload X 549 dL_moves_547 rfl rfl ?_
            refine G.if_eq X 564 552 dL_moves_549 (by decide) rfl (by omega) (fun hc549 => ?_) (fun hc549 => by exact absurd hc549 (by decide))
            refine G.iconst X 565 dL_moves_564 rfl ?_
            refine G.goto X 569 dL_moves_565 (by decide) ?_
            refine G.zret X dL_moves_569 ⟨Nat.le_refl _, Nat.le_refl _⟩ (Or.inr rfl) ⟨rfl, rfl, rfl, _, rfl, ?_⟩
            exact ⟨rfl, r, h, hO, Or.inl ⟨rfl, rfl⟩⟩
        · skip
          refine G.aload_n X 467 dL_moves_466 rfl rfl ?_
          refine G.iload X 469 dL_moves_467 rfl rfl ?_
          refine G.iconst X 470 dL_moves_469 rfl ?_
          refine GS.set X hO ml_L_19 473 dL_moves_470 rfl (set_5p (i := j461) (j := y) (by omega) (by omega)) (by omega) (by decide) (by decide) ⟨Nat.zero_le _, Nat.zero_le _⟩ (Nat.le_of_ble_eq_true rfl) ?_
          refine G.bipush X 475 dL_moves_473 rfl (by decide) ?_
          refine G.icmp_ne X 519 478 dL_moves_475 (by decide) rfl (by omega) (by omega) (fun hc475 => ?_) (fun hc475 => by exfalso; omega)
          refine G.iconst X 520 dL_moves_519 rfl ?_
          refine G.istore (ls' := [_, _, _, _, _, _, _, _, _, _, _]) X 522 dL_moves_520 rfl (by decide) rfl ?_
          refine G.aload_n X 523 dL_moves_522 rfl rfl ?_
          refine G.iload X 525 dL_moves_523 rfl rfl ?_
          refine G.iload X 527 dL_moves_525 rfl rfl ?_
          refine GS.bringN X hO ml_L_61 530 dL_moves_527 rfl (bring_n (by omega) (by omega) (by omega)) (by omega) (by omega) (by decide) ⟨Nat.zero_le _, Nat.zero_le _⟩ (Nat.le_of_ble_eq_true rfl) (fun M hO => ?_)
          refine G.iload X 532 dL_moves_530 rfl rfl ?_
          refine G.if_eq X 542 535 dL_moves_532 (by decide) rfl (by omega) (fun hc532 => ?_) (fun hc532 => by exact absurd hc532 (by decide))
          refine G.bipush X 544 dL_moves_542 rfl (by decide) ?_
          refine G.icmp_ne X 568 547 dL_moves_544 (by decide) rfl (by omega) (by omega) (fun hc544 => by exact absurd hc544 (by decide)) (fun hc544 => ?_)
          refine G.iload X 549 dL_moves_547 rfl rfl ?_
          refine G.if_eq X 564 552 dL_moves_549 (by decide) rfl (by omega) (fun hc549 => ?_) (fun hc549 => by exact absurd hc549 (by decide))
          refine G.iconst X 565 dL_moves_564 rfl ?_
          refine G.goto X 569 dL_moves_565 (by decide) ?_
          refine G.zret X dL_moves_569 ⟨Nat.le_refl _, Nat.le_refl _⟩ (Or.inr rfl) ⟨rfl, rfl, rfl, _, rfl, ?_⟩
          exact ⟨rfl, r, h, hO, Or.inl ⟨rfl, rfl⟩⟩
      · skip
        refine GS.site X hO ml_L_23 380 dL_moves_377 rfl (sit_4p (i := j368) (j := m) (by omega) (by omega)) (by omega) (by decide) (by decide) ⟨Nat.zero_le _, Nat.zero_le _⟩ (Nat.le_of_ble_eq_true rfl) ?_
        refine G.istore (ls' := [_, _, _, _, _, _, _, _, _, _, _]) X 382 dL_moves_380 rfl (by decide) rfl ?_
        refine G.iload_n X 383 dL_moves_382 rfl rfl ?_
        refine G.iconst X 384 dL_moves_383 rfl ?_
        refine G.icmp_ne X 454 387 dL_moves_384 (by decide) rfl (by omega) (by omega) (fun hc384 => ?_) (fun hc384 => by exfalso; omega)
        refine G.iload_n X 455 dL_moves_454 rfl rfl ?_
        refine G.aload_n X 456 dL_moves_455 rfl rfl ?_
        refine G.bipush X 458 dL_moves_456 rfl (by decide) ?_
        refine GS.count X hO ml_L_13 461 dL_moves_458 rfl (cnt_7) (by decide) (by decide) ⟨Nat.zero_le _, Nat.zero_le _⟩ (Nat.le_of_ble_eq_true rfl) (fun M hO => ?_)
        refine GS.low X ml_L_52 464 dL_moves_461 rfl (by omega) (by decide) ⟨Nat.zero_le _, Nat.zero_le _⟩ (Nat.le_of_ble_eq_true rfl) (fun j461 hj461 => ?_)
        refine G.istore (ls' := [_, _, _, _, _, _, _, _, _, _, _]) X 466 dL_moves_464 rfl (by decide) rfl ?_
        have vj := hV.2.1 j461 (by omega)
        unfold Vset at vj
        have vk := hV.2.2 j368 (by omega)
        unfold Vsite at vk
        rcases hV.i5 (i := j461) (by omega) with h5 | ⟨y, h5, hy⟩
        · skip
          refine G.aload_n X 467 dL_moves_466 rfl rfl ?_
          refine G.iload X 469 dL_moves_467 rfl rfl ?_
          refine G.iconst X 470 dL_moves_469 rfl ?_
          refine GS.set X hO ml_L_19 473 dL_moves_470 rfl (set_5z (i := j461) (by omega) (by omega)) (by omega) (by decide) (by decide) ⟨Nat.zero_le _, Nat.zero_le _⟩ (Nat.le_of_ble_eq_true rfl) ?_
          refine G.bipush X 475 dL_moves_473 rfl (by decide) ?_
          refine G.icmp_ne X 519 478 dL_moves_475 (by decide) rfl (by omega) (by omega) (fun hc475 => by exact absurd hc475 (by decide)) (fun hc475 => ?_)
          refine G.iload X 480 dL_moves_478 rfl rfl ?_
          refine G.if_ge X 519 483 dL_moves_480 (by decide) rfl (by omega) (fun hc480 => ?_) (fun hc480 => by omega)
          refine G.iconst X 520 dL_moves_519 rfl ?_
          refine G.istore (ls' := [_, _, _, _, _, _, _, _, _, _, _]) X 522 dL_moves_520 rfl (by decide) rfl ?_
          refine G.aload_n X 523 dL_moves_522 rfl rfl ?_
          refine G.iload X 525 dL_moves_523 rfl rfl ?_
          refine G.iload X 527 dL_moves_525 rfl rfl ?_
          refine GS.bringN X hO ml_L_61 530 dL_moves_527 rfl (bring_n (by omega) (by omega) (by omega)) (by omega) (by omega) (by decide) ⟨Nat.zero_le _, Nat.zero_le _⟩ (Nat.le_of_ble_eq_true rfl) (fun M hO => ?_)
          refine G.iload X 532 dL_moves_530 rfl rfl ?_
          refine G.if_eq X 542 535 dL_moves_532 (by decide) rfl (by omega) (fun hc532 => ?_) (fun hc532 => by exact absurd hc532 (by decide))
          refine G.bipush X 544 dL_moves_542 rfl (by decide) ?_
          refine G.icmp_ne X 568 547 dL_moves_544 (by decide) rfl (by omega) (by omega) (fun hc544 => by exact absurd hc544 (by decide)) (fun hc544 => ?_)
          refine G.iload X 549 dL_moves_547 rfl rfl ?_
          refine G.if_eq X 564 552 dL_moves_549 (by decide) rfl (by omega) (fun hc549 => ?_) (fun hc549 => by exact absurd hc549 (by decide))
          refine G.iconst X 565 dL_moves_564 rfl ?_
          refine G.goto X 569 dL_moves_565 (by decide) ?_
          refine G.zret X dL_moves_569 ⟨Nat.le_refl _, Nat.le_refl _⟩ (Or.inr rfl) ⟨rfl, rfl, rfl, _, rfl, ?_⟩
          exact ⟨rfl, r, h, hO, Or.inl ⟨rfl, rfl⟩⟩
        · skip
          refine G.aload_n X 467 dL_moves_466 rfl rfl ?_
          refine G.iload X 469 dL_moves_467 rfl rfl ?_
          refine G.iconst X 470 dL_moves_469 rfl ?_
          refine GS.set X hO ml_L_19 473 dL_moves_470 rfl (set_5p (i := j461) (j := y) (by omega) (by omega)) (by omega) (by decide) (by decide) ⟨Nat.zero_le _, Nat.zero_le _⟩ (Nat.le_of_ble_eq_true rfl) ?_
          refine G.bipush X 475 dL_moves_473 rfl (by decide) ?_
          refine G.icmp_ne X 519 478 dL_moves_475 (by decide) rfl (by omega) (by omega) (fun hc475 => ?_) (fun hc475 => by exfalso; omega)
          refine G.iconst X 520 dL_moves_519 rfl ?_
          refine G.istore (ls' := [_, _, _, _, _, _, _, _, _, _, _]) X 522 dL_moves_520 rfl (by decide) rfl ?_
          refine G.aload_n X 523 dL_moves_522 rfl rfl ?_
          refine G.iload X 525 dL_moves_523 rfl rfl ?_
          refine G.iload X 527 dL_moves_525 rfl rfl ?_
          refine GS.bringN X hO ml_L_61 530 dL_moves_527 rfl (bring_n (by omega) (by omega) (by omega)) (by omega) (by omega) (by decide) ⟨Nat.zero_le _, Nat.zero_le _⟩ (Nat.le_of_ble_eq_true rfl) (fun M hO => ?_)
          refine G.iload X 532 dL_moves_530 rfl rfl ?_
          refine G.if_eq X 542 535 dL_moves_532 (by decide) rfl (by omega) (fun hc532 => ?_) (fun hc532 => by exact absurd hc532 (by decide))
          refine G.bipush X 544 dL_moves_542 rfl (by decide) ?_
          refine G.icmp_ne X 568 547 dL_moves_544 (by decide) rfl (by omega) (by omega) (fun hc544 => by exact absurd hc544 (by decide)) (fun hc544 => ?_)
          refine G.iload X 549 dL_moves_547 rfl rfl ?_
          refine G.if_eq X 564 552 dL_moves_549 (by decide) rfl (by omega) (fun hc549 => ?_) (fun hc549 => by exact absurd hc549 (by decide))
          refine G.iconst X 565 dL_moves_564 rfl ?_
          refine G.goto X 569 dL_moves_565 (by decide) ?_
          refine G.zret X dL_moves_569 ⟨Nat.le_refl _, Nat.le_refl _⟩ (Or.inr rfl) ⟨rfl, rfl, rfl, _, rfl, ?_⟩
          exact ⟨rfl, r, h, hO, Or.inl ⟨rfl, rfl⟩⟩
