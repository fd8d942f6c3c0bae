set_option maxHeartbeats 1000000 in
set_option maxRecDepth 100000 in
theorem c_X6_set (l : Launch) (D : xD) (Bs sz : Nat) (kd : xKd) (rf : xRf) (M : xM) (y : Nat) (x z : Int) (hY : ShY kd rf y) (hV : Vk (M (y + 1))) (rx : IR x) (rz : IR z) : CtI l D Bs yX6_set cX6_set 3 (some .int) 2 [.ref y, vi x, vi z] sz kd rf M (fun q M' => q = setF x z (M (y + 1)) ∧ M' = M) := by
  refine Ctr.of (yv_X6_set.1.2.2.2.2) (List.forall_mem_cons.mpr ⟨rfl, List.forall_mem_cons.mpr ⟨rfl, List.forall_mem_cons.mpr ⟨rfl, fun _ h => absurd h List.not_mem_nil⟩⟩⟩) (Nat.le_of_ble_eq_true rfl) [some (.ref y), some (vi x), some (vi z)] rfl ?_
  intro p e s m args below meth c X hin
  obtain ⟨n6, n6b⟩ := hV.n6
  obtain ⟨n7, n7b⟩ := hV.n7
  refine G.aload_n X 1 dX6_set_0 rfl rfl ?_
  refine G.iload_n X 2 dX6_set_1 rfl rfl ?_
  refine G.vI1 (d := 1) X ml_X6_52 yv_X6_noSet 5 dX6_set_2 rfl (c_X6_noSet l D Bs _ kd rf _ y _ hY hV (by omega)) ⟨_, _, (hY).1, rfl, rfl⟩ (by decide) ⟨Nat.zero_le _, Nat.zero_le _⟩ (Nat.le_of_ble_eq_true rfl) (fun r2 M2 h2 => ?_)
  obtain ⟨hr2, hm2⟩ := h2
  subst hr2
  obtain rfl := hm2.symm
  refine G.ifb_eq X 10 8 dX6_set_5 (by decide) rfl (fun hc5 => ?_) (fun hc5 => ?_)
  · obtain ⟨u, rfl⟩ : ∃ u : Nat, x = (u : Int) := ⟨x.toNat, by omega⟩
    refine G.iload_n X 11 dX6_set_10 rfl rfl ?_
    refine G.iconst X 12 dX6_set_11 rfl ?_
    refine G.icmp_ne X 38 15 dX6_set_12 (by decide) rfl (by omega) (by omega) (fun hc12 => ?_) (fun hc12 => ?_)
    · refine G.iload_n X 39 dX6_set_38 rfl rfl ?_
      refine G.iconst X 40 dX6_set_39 rfl ?_
      refine G.bipush X 42 dX6_set_40 rfl (by decide) ?_
      refine G.sI3 (d := 0) X ml_X6_36 ys_X6_in 45 dX6_set_42 rfl (c_X6_in l D Bs _ kd rf _ _ _ _ (by omega) (by omega) (by omega)) (by decide) ⟨Nat.zero_le _, Nat.zero_le _⟩ (Nat.le_of_ble_eq_true rfl) (fun r42 M42 h42 => ?_)
      obtain ⟨hr42, hm42⟩ := h42
      subst hr42
      obtain rfl := hm42.symm
      refine G.ifb_eq X 57 48 dX6_set_45 (by decide) rfl (fun hc45 => ?_) (fun hc45 => ?_)
      · have w : Nat := 0
        refine G.iload_n X 58 dX6_set_57 rfl rfl ?_
        refine G.bipush X 60 dX6_set_58 rfl (by decide) ?_
        refine G.icmp_ne X 71 63 dX6_set_60 (by decide) rfl (by omega) (by omega) (fun hc60 => ?_) (fun hc60 => ?_)
        · refine G.bipush X 73 dX6_set_71 rfl (by decide) ?_
          refine G.iret X dX6_set_73 ⟨Nat.le_refl _, Nat.le_refl _⟩ ⟨rfl, rfl, rfl, _, rfl, ?_⟩
          first
            | (refine ⟨?_, rfl⟩
               unfold setF
               rw [if_neg (by omega), if_neg (by omega), if_neg (by omega), if_neg (by omega), if_neg (by omega), if_neg (by omega), if_neg (by omega), if_neg (by omega), if_neg (by omega), if_neg (by omega), if_neg (by omega)]
               done)
            | (refine ⟨?_, rfl⟩
               unfold setF
               rw [if_neg (by omega), if_neg (by decide), if_neg (by decide), if_neg (by decide), if_neg (by decide), if_neg (by decide), if_neg (by decide), if_neg (by decide), if_neg (by decide), if_neg (by decide), if_pos rfl]
               try simp only [Int.toNat_natCast]
               done)
            | (refine ⟨?_, rfl⟩
               unfold setF
               simp only [Int.toNat_natCast]
               rw [if_neg (by omega)]
               rcases (by omega : w = 0 ∨ w = 1 ∨ w = 2 ∨ w = 3 ∨ w = 4 ∨ w = 6 ∨ w = 7 ∨ w = 8) with e | e | e | e | e | e | e | e <;> subst e <;> rfl)
        · obtain rfl : z = 9 := by omega
          refine G.aload_n X 64 dX6_set_63 rfl rfl ?_
          refine G.iload_n X 65 dX6_set_64 rfl rfl ?_
          refine G.vI1 (d := 1) X ml_X6_119 yv_X6_hoursLeft 68 dX6_set_65 rfl (c_X6_hoursLeft l D Bs _ kd rf _ y u hY hV (by omega)) ⟨_, _, (hY).1, rfl, rfl⟩ (by decide) ⟨Nat.zero_le _, Nat.zero_le _⟩ (Nat.le_of_ble_eq_true rfl) (fun r65 M65 h65 => ?_)
          obtain ⟨hr65, hm65⟩ := h65
          subst hr65
          obtain rfl := hm65.symm
          refine G.goto X 73 dX6_set_68 (by decide) ?_
          refine G.iret X dX6_set_73 ⟨Nat.le_refl _, Nat.le_refl _⟩ ⟨rfl, rfl, rfl, _, rfl, ?_⟩
          first
            | (refine ⟨?_, rfl⟩
               unfold setF
               rw [if_neg (by omega), if_neg (by omega), if_neg (by omega), if_neg (by omega), if_neg (by omega), if_neg (by omega), if_neg (by omega), if_neg (by omega), if_neg (by omega), if_neg (by omega), if_neg (by omega)]
               done)
            | (refine ⟨?_, rfl⟩
               unfold setF
               rw [if_neg (by omega), if_neg (by decide), if_neg (by decide), if_neg (by decide), if_neg (by decide), if_neg (by decide), if_neg (by decide), if_neg (by decide), if_neg (by decide), if_neg (by decide), if_pos rfl]
               try simp only [Int.toNat_natCast]
               done)
            | (refine ⟨?_, rfl⟩
               unfold setF
               simp only [Int.toNat_natCast]
               rw [if_neg (by omega)]
               rcases (by omega : w = 0 ∨ w = 1 ∨ w = 2 ∨ w = 3 ∨ w = 4 ∨ w = 6 ∨ w = 7 ∨ w = 8) with e | e | e | e | e | e | e | e <;> subst e <;> rfl)
      · obtain ⟨w, rfl⟩ : ∃ w : Nat, z = (w : Int) := ⟨z.toNat, by omega⟩
        refine G.aload_n X 49 dX6_set_48 rfl rfl ?_
        refine G.iload_n X 50 dX6_set_49 rfl rfl ?_
        refine G.iload_n X 51 dX6_set_50 rfl rfl ?_
        refine G.vI2 (d := 0) X ml_X6_48 yv_X6_ofSet 54 dX6_set_51 rfl (c_X6_ofSet l D Bs _ kd rf _ y u w hY (by omega) (by omega)) ⟨_, _, (hY).1, rfl, rfl⟩ (by decide) ⟨Nat.zero_le _, Nat.zero_le _⟩ (Nat.le_of_ble_eq_true rfl) (fun r51 M51 h51 => ?_)
        obtain ⟨hr51, hm51⟩ := h51
        subst hr51
        obtain rfl := hm51.symm
        refine G.goto X 73 dX6_set_54 (by decide) ?_
        refine G.iret X dX6_set_73 ⟨Nat.le_refl _, Nat.le_refl _⟩ ⟨rfl, rfl, rfl, _, rfl, ?_⟩
        first
          | (refine ⟨?_, rfl⟩
             unfold setF
             rw [if_neg (by omega), if_neg (by omega), if_neg (by omega), if_neg (by omega), if_neg (by omega), if_neg (by omega), if_neg (by omega), if_neg (by omega), if_neg (by omega), if_neg (by omega), if_neg (by omega)]
             done)
          | (refine ⟨?_, rfl⟩
             unfold setF
             rw [if_neg (by omega), if_neg (by decide), if_neg (by decide), if_neg (by decide), if_neg (by decide), if_neg (by decide), if_neg (by decide), if_neg (by decide), if_neg (by decide), if_neg (by decide), if_pos rfl]
             try simp only [Int.toNat_natCast]
             done)
          | (refine ⟨?_, rfl⟩
             unfold setF
             simp only [Int.toNat_natCast]
             rw [if_neg (by omega)]
             rcases (by omega : w = 0 ∨ w = 1 ∨ w = 2 ∨ w = 3 ∨ w = 4 ∨ w = 6 ∨ w = 7 ∨ w = 8) with e | e | e | e | e | e | e | e <;> subst e <;> rfl)
    · obtain rfl : z = 5 := by omega
      obtain ⟨-, -, -, -, -, v5, -, -⟩ := hV.2.1 (u) (by omega)
      refine G.aload_n X 16 dX6_set_15 rfl rfl ?_
      refine G.iload_n X 17 dX6_set_16 rfl rfl ?_
      refine G.iconst X 18 dX6_set_17 rfl ?_
      refine G.vI2 (d := 0) X ml_X6_48 yv_X6_ofSet 21 dX6_set_18 rfl (c_X6_ofSet l D Bs _ kd rf _ y u 5 hY (by omega) (by decide)) ⟨_, _, (hY).1, rfl, rfl⟩ (by decide) ⟨Nat.zero_le _, Nat.zero_le _⟩ (Nat.le_of_ble_eq_true rfl) (fun r18 M18 h18 => ?_)
      obtain ⟨hr18, hm18⟩ := h18
      subst hr18
      obtain rfl := hm18.symm
      refine G.if_ne X 29 24 dX6_set_21 (by decide) rfl (by omega) (fun hc21 => ?_) (fun hc21 => ?_)
      · refine G.aload_n X 30 dX6_set_29 rfl rfl ?_
        refine G.iload_n X 31 dX6_set_30 rfl rfl ?_
        refine G.iconst X 32 dX6_set_31 rfl ?_
        refine G.vI2 (d := 0) X ml_X6_48 yv_X6_ofSet 35 dX6_set_32 rfl (c_X6_ofSet l D Bs _ kd rf _ y u 5 hY (by omega) (by decide)) ⟨_, _, (hY).1, rfl, rfl⟩ (by decide) ⟨Nat.zero_le _, Nat.zero_le _⟩ (Nat.le_of_ble_eq_true rfl) (fun r32 M32 h32 => ?_)
        obtain ⟨hr32, hm32⟩ := h32
        subst hr32
        obtain rfl := hm32.symm
        refine G.iconst X 36 dX6_set_35 rfl ?_
        refine G.isub X 37 dX6_set_36 rfl ?_
        refine G.iret X dX6_set_37 ⟨Nat.le_refl _, Nat.le_refl _⟩ ⟨rfl, rfl, rfl, _, rfl, ?_⟩
        refine ⟨?_, rfl⟩
        unfold setF
        rw [if_neg (by omega), if_neg (by decide), if_neg (by decide), if_neg (by decide), if_neg (by decide), if_neg (by decide), if_pos rfl]
        simp only [Int.toNat_natCast]
        split <;> omega
      · refine G.bipush X 26 dX6_set_24 rfl (by decide) ?_
        refine G.goto X 37 dX6_set_26 (by decide) ?_
        refine G.iret X dX6_set_37 ⟨Nat.le_refl _, Nat.le_refl _⟩ ⟨rfl, rfl, rfl, _, rfl, ?_⟩
        refine ⟨?_, rfl⟩
        unfold setF
        rw [if_neg (by omega), if_neg (by decide), if_neg (by decide), if_neg (by decide), if_neg (by decide), if_neg (by decide), if_pos rfl]
        simp only [Int.toNat_natCast]
        split <;> omega
  · refine G.iconst X 9 dX6_set_8 rfl ?_
    refine G.iret X dX6_set_9 ⟨Nat.le_refl _, Nat.le_refl _⟩ ⟨rfl, rfl, rfl, _, rfl, ?_⟩
    refine ⟨?_, rfl⟩
    unfold setF
    rw [if_pos (by omega)]
set_option maxHeartbeats 1000000 in
set_option maxRecDepth 100000 in
theorem c_X6_site (l : Launch) (D : xD) (Bs sz : Nat) (kd : xKd) (rf : xRf) (M : xM) (y : Nat) (x z : Int) (hY : ShY kd rf y) (hV : Vk (M (y + 1))) (rx : IR x) (rz : IR z) : CtI l D Bs yX6_site cX6_site 3 (some .int) 2 [.ref y, vi x, vi z] sz kd rf M (fun q M' => q = sitF x z (M (y + 1)) ∧ M' = M) := by
  refine Ctr.of (yv_X6_site.1.2.2.2.2) (List.forall_mem_cons.mpr ⟨rfl, List.forall_mem_cons.mpr ⟨rfl, List.forall_mem_cons.mpr ⟨rfl, fun _ h => absurd h List.not_mem_nil⟩⟩⟩) (Nat.le_of_ble_eq_true rfl) [some (.ref y), some (vi x), some (vi z)] rfl ?_
  intro p e s m args below meth c X hin
  obtain ⟨n6, n6b⟩ := hV.n6
  obtain ⟨n7, n7b⟩ := hV.n7
  obtain ⟨hv0, -, -, -, -, -⟩ := hV.1
  refine G.aload_n X 1 dX6_site_0 rfl rfl ?_
  refine G.iload_n X 2 dX6_site_1 rfl rfl ?_
  refine G.vI1 (d := 1) X ml_X6_84 yv_X6_noSite 5 dX6_site_2 rfl (c_X6_noSite l D Bs _ kd rf _ y _ hY hV (by omega)) ⟨_, _, (hY).1, rfl, rfl⟩ (by decide) ⟨Nat.zero_le _, Nat.zero_le _⟩ (Nat.le_of_ble_eq_true rfl) (fun r2 M2 h2 => ?_)
  obtain ⟨hr2, hm2⟩ := h2
  subst hr2
  obtain rfl := hm2.symm
  refine G.ifb_eq X 10 8 dX6_site_5 (by decide) rfl (fun hc5 => ?_) (fun hc5 => ?_)
  · obtain ⟨j, rfl⟩ : ∃ j : Nat, x = (j : Int) := ⟨x.toNat, by omega⟩
    obtain ⟨-, -, w2, w3, w4, -, w8⟩ := hV.2.2 (j) (by omega)
    refine G.iload_n X 11 dX6_site_10 rfl rfl ?_
    by_cases hsw : z = 4 ∨ z = 8 ∨ z = 9
    · rcases hsw with hsw2 | hsw2 | hsw2
      · subst hsw2
        refine G.lookup X 44 dX6_site_11 (by decide) (by omega) (by rfl) (by decide) ?_
        refine G.aload_n X 45 dX6_site_44 rfl rfl ?_
        refine G.iload_n X 46 dX6_site_45 rfl rfl ?_
        refine G.vI1 (d := 1) X ml_X6_81 yv_X6_setAt 49 dX6_site_46 rfl (c_X6_setAt l D Bs _ kd rf _ y j hY (by omega)) ⟨_, _, (hY).1, rfl, rfl⟩ (by decide) ⟨Nat.zero_le _, Nat.zero_le _⟩ (Nat.le_of_ble_eq_true rfl) (fun r46 M46 h46 => ?_)
        obtain ⟨hr46, hm46⟩ := h46
        subst hr46
        obtain rfl := hm46.symm
        refine G.if_ge X 57 52 dX6_site_49 (by decide) rfl (by omega) (fun hc49 => ?_) (fun hc49 => ?_)
        · refine G.aload_n X 58 dX6_site_57 rfl rfl ?_
          refine G.iload_n X 59 dX6_site_58 rfl rfl ?_
          refine G.vI1 (d := 1) X ml_X6_81 yv_X6_setAt 62 dX6_site_59 rfl (c_X6_setAt l D Bs _ kd rf _ y j hY (by omega)) ⟨_, _, (hY).1, rfl, rfl⟩ (by decide) ⟨Nat.zero_le _, Nat.zero_le _⟩ (Nat.le_of_ble_eq_true rfl) (fun r59 M59 h59 => ?_)
          obtain ⟨hr59, hm59⟩ := h59
          subst hr59
          obtain rfl := hm59.symm
          refine G.iret X dX6_site_62 ⟨Nat.le_refl _, Nat.le_refl _⟩ ⟨rfl, rfl, rfl, _, rfl, ?_⟩
          refine ⟨?_, by trivial⟩
          unfold sitF
          rw [if_neg (by omega), if_neg (by decide), if_neg (by decide), if_neg (by decide), if_neg (by decide), if_pos rfl]
          simp only [Int.toNat_natCast]
          split <;> omega
        · refine G.bipush X 54 dX6_site_52 rfl (by decide) ?_
          refine G.goto X 62 dX6_site_54 (by decide) ?_
          refine G.iret X dX6_site_62 ⟨Nat.le_refl _, Nat.le_refl _⟩ ⟨rfl, rfl, rfl, _, rfl, ?_⟩
          refine ⟨?_, by trivial⟩
          unfold sitF
          rw [if_neg (by omega), if_neg (by decide), if_neg (by decide), if_neg (by decide), if_neg (by decide), if_pos rfl]
          simp only [Int.toNat_natCast]
          split <;> omega
      · subst hsw2
        refine G.lookup X 63 dX6_site_11 (by decide) (by omega) (by rfl) (by decide) ?_
        refine G.aload_n X 64 dX6_site_63 rfl rfl ?_
        refine G.iload_n X 65 dX6_site_64 rfl rfl ?_
        refine G.bipush X 67 dX6_site_65 rfl (by decide) ?_
        refine G.vI2 (d := 0) X ml_X6_78 yv_X6_ofSite 70 dX6_site_67 rfl (c_X6_ofSite l D Bs _ kd rf _ y j 8 hY (by omega) (by decide)) ⟨_, _, (hY).1, rfl, rfl⟩ (by decide) ⟨Nat.zero_le _, Nat.zero_le _⟩ (Nat.le_of_ble_eq_true rfl) (fun r67 M67 h67 => ?_)
        obtain ⟨hr67, hm67⟩ := h67
        subst hr67
        obtain rfl := hm67.symm
        refine G.if_ne X 78 73 dX6_site_70 (by decide) rfl (by omega) (fun hc70 => ?_) (fun hc70 => ?_)
        · refine G.aload_n X 79 dX6_site_78 rfl rfl ?_
          refine G.iload_n X 80 dX6_site_79 rfl rfl ?_
          refine G.bipush X 82 dX6_site_80 rfl (by decide) ?_
          refine G.vI2 (d := 0) X ml_X6_78 yv_X6_ofSite 85 dX6_site_82 rfl (c_X6_ofSite l D Bs _ kd rf _ y j 8 hY (by omega) (by decide)) ⟨_, _, (hY).1, rfl, rfl⟩ (by decide) ⟨Nat.zero_le _, Nat.zero_le _⟩ (Nat.le_of_ble_eq_true rfl) (fun r82 M82 h82 => ?_)
          obtain ⟨hr82, hm82⟩ := h82
          subst hr82
          obtain rfl := hm82.symm
          refine G.iret X dX6_site_85 ⟨Nat.le_refl _, Nat.le_refl _⟩ ⟨rfl, rfl, rfl, _, rfl, ?_⟩
          refine ⟨?_, by trivial⟩
          unfold sitF
          rw [if_neg (by omega), if_neg (by decide), if_neg (by decide), if_neg (by decide), if_neg (by decide), if_neg (by decide), if_neg (by decide), if_neg (by decide), if_neg (by decide), if_pos rfl]
          simp only [Int.toNat_natCast]
          split <;> omega
        · refine G.bipush X 75 dX6_site_73 rfl (by decide) ?_
          refine G.goto X 85 dX6_site_75 (by decide) ?_
          refine G.iret X dX6_site_85 ⟨Nat.le_refl _, Nat.le_refl _⟩ ⟨rfl, rfl, rfl, _, rfl, ?_⟩
          refine ⟨?_, by trivial⟩
          unfold sitF
          rw [if_neg (by omega), if_neg (by decide), if_neg (by decide), if_neg (by decide), if_neg (by decide), if_neg (by decide), if_neg (by decide), if_neg (by decide), if_neg (by decide), if_pos rfl]
          simp only [Int.toNat_natCast]
          split <;> omega
      · subst hsw2
        refine G.lookup X 86 dX6_site_11 (by decide) (by omega) (by rfl) (by decide) ?_
        refine G.aload_n X 87 dX6_site_86 rfl rfl ?_
        refine G.iload_n X 88 dX6_site_87 rfl rfl ?_
        refine G.vI1 (d := 1) X ml_X6_101 yv_X6_isOpen 91 dX6_site_88 rfl (c_X6_isOpen l D Bs _ kd rf _ y j hY hV (by omega)) ⟨_, _, (hY).1, rfl, rfl⟩ (by decide) ⟨Nat.zero_le _, Nat.zero_le _⟩ (Nat.le_of_ble_eq_true rfl) (fun r88 M88 h88 => ?_)
        obtain ⟨hr88, hm88⟩ := h88
        subst hr88
        obtain rfl := hm88.symm
        refine G.ifb_eq X 98 94 dX6_site_91 (by decide) rfl (fun hc91 => ?_) (fun hc91 => ?_)
        · refine G.iconst X 99 dX6_site_98 rfl ?_
          refine G.iret X dX6_site_99 ⟨Nat.le_refl _, Nat.le_refl _⟩ ⟨rfl, rfl, rfl, _, rfl, ?_⟩
          refine ⟨?_, by trivial⟩
          unfold sitF
          rw [if_neg (by omega), if_neg (by decide), if_neg (by decide), if_neg (by decide), if_neg (by decide), if_neg (by decide), if_neg (by decide), if_neg (by decide), if_neg (by decide), if_neg (by decide), if_pos rfl]
          simp only [Int.toNat_natCast]
          first | (rw [if_pos (by omega)]; done) | (rw [if_neg (by omega)]; done)
        · refine G.iconst X 95 dX6_site_94 rfl ?_
          refine G.goto X 99 dX6_site_95 (by decide) ?_
          refine G.iret X dX6_site_99 ⟨Nat.le_refl _, Nat.le_refl _⟩ ⟨rfl, rfl, rfl, _, rfl, ?_⟩
          refine ⟨?_, by trivial⟩
          unfold sitF
          rw [if_neg (by omega), if_neg (by decide), if_neg (by decide), if_neg (by decide), if_neg (by decide), if_neg (by decide), if_neg (by decide), if_neg (by decide), if_neg (by decide), if_neg (by decide), if_pos rfl]
          simp only [Int.toNat_natCast]
          first | (rw [if_pos (by omega)]; done) | (rw [if_neg (by omega)]; done)
    · refine G.lookup X 100 dX6_site_11 (by decide) (by omega) (by show Op.lookupswitch.offset [(4, 33), (8, 52), (9, 75)] 89 z = 89; rw [Op.lookupswitch.offset_cons, if_neg (by omega), Op.lookupswitch.offset_cons, if_neg (by omega), Op.lookupswitch.offset_cons, if_neg (by omega)]; rfl) (by decide) ?_
      refine G.iload_n X 101 dX6_site_100 rfl rfl ?_
      refine G.iconst X 102 dX6_site_101 rfl ?_
      refine G.bipush X 104 dX6_site_102 rfl (by decide) ?_
      refine G.sI3 (d := 0) X ml_X6_36 ys_X6_in 107 dX6_site_104 rfl (c_X6_in l D Bs _ kd rf _ _ _ _ (by omega) (by omega) (by omega)) (by decide) ⟨Nat.zero_le _, Nat.zero_le _⟩ (Nat.le_of_ble_eq_true rfl) (fun r104 M104 h104 => ?_)
      obtain ⟨hr104, hm104⟩ := h104
      subst hr104
      obtain rfl := hm104.symm
      refine G.ifb_eq X 119 110 dX6_site_107 (by decide) rfl (fun hc107 => ?_) (fun hc107 => ?_)
      · have w : Nat := 0
        refine G.bipush X 121 dX6_site_119 rfl (by decide) ?_
        refine G.iret X dX6_site_121 ⟨Nat.le_refl _, Nat.le_refl _⟩ ⟨rfl, rfl, rfl, _, rfl, ?_⟩
        first
          | (refine ⟨?_, rfl⟩
             unfold sitF
             rw [if_neg (by omega), if_neg (by omega), if_neg (by omega), if_neg (by omega), if_neg (by omega), if_neg (by omega), if_neg (by omega), if_neg (by omega), if_neg (by omega), if_neg (by omega), if_neg (by omega)]
             done)
          | (refine ⟨?_, rfl⟩
             unfold sitF
             simp only [Int.toNat_natCast]
             rw [if_neg (by omega)]
             rcases (by omega : w = 0 ∨ w = 1 ∨ w = 2 ∨ w = 3 ∨ w = 5 ∨ w = 6 ∨ w = 7) with e | e | e | e | e | e | e <;> subst e <;> rfl)
      · obtain ⟨w, rfl⟩ : ∃ w : Nat, z = (w : Int) := ⟨z.toNat, by omega⟩
        refine G.aload_n X 111 dX6_site_110 rfl rfl ?_
        refine G.iload_n X 112 dX6_site_111 rfl rfl ?_
        refine G.iload_n X 113 dX6_site_112 rfl rfl ?_
        refine G.vI2 (d := 0) X ml_X6_78 yv_X6_ofSite 116 dX6_site_113 rfl (c_X6_ofSite l D Bs _ kd rf _ y j w hY (by omega) (by omega)) ⟨_, _, (hY).1, rfl, rfl⟩ (by decide) ⟨Nat.zero_le _, Nat.zero_le _⟩ (Nat.le_of_ble_eq_true rfl) (fun r113 M113 h113 => ?_)
        obtain ⟨hr113, hm113⟩ := h113
        subst hr113
        obtain rfl := hm113.symm
        refine G.goto X 121 dX6_site_116 (by decide) ?_
        refine G.iret X dX6_site_121 ⟨Nat.le_refl _, Nat.le_refl _⟩ ⟨rfl, rfl, rfl, _, rfl, ?_⟩
        first
          | (refine ⟨?_, rfl⟩
             unfold sitF
             rw [if_neg (by omega), if_neg (by omega), if_neg (by omega), if_neg (by omega), if_neg (by omega), if_neg (by omega), if_neg (by omega), if_neg (by omega), if_neg (by omega), if_neg (by omega), if_neg (by omega)]
             done)
          | (refine ⟨?_, rfl⟩
             unfold sitF
             simp only [Int.toNat_natCast]
             rw [if_neg (by omega)]
             rcases (by omega : w = 0 ∨ w = 1 ∨ w = 2 ∨ w = 3 ∨ w = 5 ∨ w = 6 ∨ w = 7) with e | e | e | e | e | e | e <;> subst e <;> rfl)
  · refine G.iconst X 9 dX6_site_8 rfl ?_
    refine G.iret X dX6_site_9 ⟨Nat.le_refl _, Nat.le_refl _⟩ ⟨rfl, rfl, rfl, _, rfl, ?_⟩
    refine ⟨?_, rfl⟩
    unfold sitF
    rw [if_pos (by omega)]
set_option maxHeartbeats 1000000 in
set_option maxRecDepth 100000 in
theorem c_X6_count (l : Launch) (D : xD) (Bs sz : Nat) (kd : xKd) (rf : xRf) (M : xM) (y : Nat) (h : List xR) (sn : Option xR) (t : List Int) (z : Int) (hY : ShY kd rf y) (hV : Vk (M (y + 1))) (hM : MSt M y (M (y + 1)) h sn t) (rz : IR z) : CtI l D Bs yX6_count cX6_count 2 (some .int) 3 [.ref y, vi z] sz kd rf M (fun q M' => q = cntF z (M (y + 1)) (h.length : Int) (t.length : Int) ∧ M' = M) := by
  refine Ctr.of (yv_X6_count.1.2.2.2.2) (List.forall_mem_cons.mpr ⟨rfl, List.forall_mem_cons.mpr ⟨rfl, fun _ h => absurd h List.not_mem_nil⟩⟩) (Nat.le_of_ble_eq_true rfl) [some (.ref y), some (vi z)] rfl ?_
  intro p e s m args below meth c X hin
  refine G.iload_n X 1 dX6_count_0 rfl rfl ?_
  by_cases hsw : 0 ≤ z ∧ z ≤ 16
  · have hsw2 : z = 0 ∨ z = 1 ∨ z = 2 ∨ z = 3 ∨ z = 4 ∨ z = 5 ∨ z = 6 ∨ z = 7 ∨ z = 8 ∨ z = 9 ∨ z = 10 ∨ z = 11 ∨ z = 12 ∨ z = 13 ∨ z = 14 ∨ z = 15 ∨ z = 16 := by omega
    rcases hsw2 with hsw2 | hsw2 | hsw2 | hsw2 | hsw2 | hsw2 | hsw2 | hsw2 | hsw2 | hsw2 | hsw2 | hsw2 | hsw2 | hsw2 | hsw2 | hsw2 | hsw2
    · subst hsw2
      refine G.tableIn X 84 dX6_count_1 (by omega) (by omega) (by omega) (by rfl) (by decide) ?_
      refine G.aload_n X 85 dX6_count_84 rfl rfl ?_
      refine G.getR X fl_X6_7 88 dX6_count_85 rfl (hY).1 (ShY.r0 hY) ?_
      refine G.iconst X 89 dX6_count_88 rfl ?_
      refine G.iald X (i := 0) 90 dX6_count_89 rfl ((ShY.a0 hY)).1 (((ShY.a0 hY)).2 _) rfl (by omega) (by decide) ?_
      refine G.iret X dX6_count_90 ⟨Nat.le_refl _, Nat.le_refl _⟩ ⟨rfl, rfl, rfl, _, rfl, ?_⟩
      refine ⟨?_, rfl⟩
      unfold cntF
      rw [if_pos rfl]
    · subst hsw2
      refine G.tableIn X 91 dX6_count_1 (by omega) (by omega) (by omega) (by rfl) (by decide) ?_
      refine G.aload_n X 92 dX6_count_91 rfl rfl ?_
      refine G.getR X fl_X6_7 95 dX6_count_92 rfl (hY).1 (ShY.r0 hY) ?_
      refine G.iconst X 96 dX6_count_95 rfl ?_
      refine G.iald X (i := 1) 97 dX6_count_96 rfl ((ShY.a0 hY)).1 (((ShY.a0 hY)).2 _) rfl (by omega) (by decide) ?_
      refine G.bipush X 99 dX6_count_97 rfl (by decide) ?_
      refine G.iadd X 100 dX6_count_99 rfl ?_
      refine G.iret X dX6_count_100 ⟨Nat.le_refl _, Nat.le_refl _⟩ ⟨rfl, rfl, rfl, _, rfl, ?_⟩
      refine ⟨?_, rfl⟩
      unfold cntF
      rw [if_neg (by decide), if_pos rfl]
    · subst hsw2
      refine G.tableIn X 101 dX6_count_1 (by omega) (by omega) (by omega) (by rfl) (by decide) ?_
      refine G.aload_n X 102 dX6_count_101 rfl rfl ?_
      refine G.getR X fl_X6_7 105 dX6_count_102 rfl (hY).1 (ShY.r0 hY) ?_
      refine G.iconst X 106 dX6_count_105 rfl ?_
      refine G.iald X (i := 2) 107 dX6_count_106 rfl ((ShY.a0 hY)).1 (((ShY.a0 hY)).2 _) rfl (by omega) (by decide) ?_
      refine G.iret X dX6_count_107 ⟨Nat.le_refl _, Nat.le_refl _⟩ ⟨rfl, rfl, rfl, _, rfl, ?_⟩
      refine ⟨?_, rfl⟩
      unfold cntF
      rw [if_neg (by decide), if_neg (by decide), if_pos rfl]
    · subst hsw2
      refine G.tableIn X 108 dX6_count_1 (by omega) (by omega) (by omega) (by rfl) (by decide) ?_
      refine G.aload_n X 109 dX6_count_108 rfl rfl ?_
      refine G.getR X fl_X6_7 112 dX6_count_109 rfl (hY).1 (ShY.r0 hY) ?_
      refine G.iconst X 113 dX6_count_112 rfl ?_
      refine G.iald X (i := 3) 114 dX6_count_113 rfl ((ShY.a0 hY)).1 (((ShY.a0 hY)).2 _) rfl (by omega) (by decide) ?_
      refine G.iret X dX6_count_114 ⟨Nat.le_refl _, Nat.le_refl _⟩ ⟨rfl, rfl, rfl, _, rfl, ?_⟩
      refine ⟨?_, rfl⟩
      unfold cntF
      rw [if_neg (by decide), if_neg (by decide), if_neg (by decide), if_pos rfl]
    · subst hsw2
      refine G.tableIn X 115 dX6_count_1 (by omega) (by omega) (by omega) (by rfl) (by decide) ?_
      refine G.aload_n X 116 dX6_count_115 rfl rfl ?_
      refine G.vI0 (d := 1) X ml_X6_167 yv_X6_inTanks 119 dX6_count_116 rfl (c_X6_inTanks l D Bs _ kd rf _ y hY hV) ⟨_, _, (hY).1, rfl, rfl⟩ (by decide) ⟨Nat.zero_le _, Nat.zero_le _⟩ (Nat.le_of_ble_eq_true rfl) (fun r116 M116 h116 => ?_)
      obtain ⟨hr116, hm116⟩ := h116
      subst hr116
      obtain rfl := hm116.symm
      refine G.iret X dX6_count_119 ⟨Nat.le_refl _, Nat.le_refl _⟩ ⟨rfl, rfl, rfl, _, rfl, ?_⟩
      refine ⟨?_, rfl⟩
      unfold cntF
      rw [if_neg (by decide), if_neg (by decide), if_neg (by decide), if_neg (by decide), if_pos rfl]
    · subst hsw2
      refine G.tableIn X 120 dX6_count_1 (by omega) (by omega) (by omega) (by rfl) (by decide) ?_
      refine G.aload_n X 121 dX6_count_120 rfl rfl ?_
      refine G.getR X fl_X6_7 124 dX6_count_121 rfl (hY).1 (ShY.r0 hY) ?_
      refine G.iconst X 125 dX6_count_124 rfl ?_
      refine G.iald X (i := 4) 126 dX6_count_125 rfl ((ShY.a0 hY)).1 (((ShY.a0 hY)).2 _) rfl (by omega) (by decide) ?_
      refine G.iret X dX6_count_126 ⟨Nat.le_refl _, Nat.le_refl _⟩ ⟨rfl, rfl, rfl, _, rfl, ?_⟩
      refine ⟨?_, rfl⟩
      unfold cntF
      rw [if_neg (by decide), if_neg (by decide), if_neg (by decide), if_neg (by decide), if_neg (by decide), if_pos rfl]
    · subst hsw2
      refine G.tableIn X 127 dX6_count_1 (by omega) (by omega) (by omega) (by rfl) (by decide) ?_
      refine G.aload_n X 128 dX6_count_127 rfl rfl ?_
      refine G.getR X fl_X6_7 131 dX6_count_128 rfl (hY).1 (ShY.r0 hY) ?_
      refine G.iconst X 132 dX6_count_131 rfl ?_
      refine G.iald X (i := 5) 133 dX6_count_132 rfl ((ShY.a0 hY)).1 (((ShY.a0 hY)).2 _) rfl (by omega) (by decide) ?_
      refine G.iret X dX6_count_133 ⟨Nat.le_refl _, Nat.le_refl _⟩ ⟨rfl, rfl, rfl, _, rfl, ?_⟩
      refine ⟨?_, rfl⟩
      unfold cntF
      rw [if_neg (by decide), if_neg (by decide), if_neg (by decide), if_neg (by decide), if_neg (by decide), if_neg (by decide), if_pos rfl]
    · subst hsw2
      refine G.tableIn X 134 dX6_count_1 (by omega) (by omega) (by omega) (by rfl) (by decide) ?_
      refine G.aload_n X 135 dX6_count_134 rfl rfl ?_
      refine G.getR X fl_X6_7 138 dX6_count_135 rfl (hY).1 (ShY.r0 hY) ?_
      refine G.bipush X 140 dX6_count_138 rfl (by decide) ?_
      refine G.iald X (i := 6) 141 dX6_count_140 rfl ((ShY.a0 hY)).1 (((ShY.a0 hY)).2 _) rfl (by omega) (by decide) ?_
      refine G.iret X dX6_count_141 ⟨Nat.le_refl _, Nat.le_refl _⟩ ⟨rfl, rfl, rfl, _, rfl, ?_⟩
      refine ⟨?_, rfl⟩
      unfold cntF
      rw [if_neg (by decide), if_neg (by decide), if_neg (by decide), if_neg (by decide), if_neg (by decide), if_neg (by decide), if_neg (by decide), if_pos rfl]
    · subst hsw2
      refine G.tableIn X 142 dX6_count_1 (by omega) (by omega) (by omega) (by rfl) (by decide) ?_
      refine G.aload_n X 143 dX6_count_142 rfl rfl ?_
      refine G.vI0 (d := 1) X ml_X6_93 yv_X6_inYard 146 dX6_count_143 rfl (c_X6_inYard l D Bs _ kd rf _ y hY hV) ⟨_, _, (hY).1, rfl, rfl⟩ (by decide) ⟨Nat.zero_le _, Nat.zero_le _⟩ (Nat.le_of_ble_eq_true rfl) (fun r143 M143 h143 => ?_)
      obtain ⟨hr143, hm143⟩ := h143
      subst hr143
      obtain rfl := hm143.symm
      refine G.iret X dX6_count_146 ⟨Nat.le_refl _, Nat.le_refl _⟩ ⟨rfl, rfl, rfl, _, rfl, ?_⟩
      refine ⟨?_, rfl⟩
      unfold cntF
      rw [if_neg (by decide), if_neg (by decide), if_neg (by decide), if_neg (by decide), if_neg (by decide), if_neg (by decide), if_neg (by decide), if_neg (by decide), if_pos rfl]
    · subst hsw2
      refine G.tableIn X 147 dX6_count_1 (by omega) (by omega) (by omega) (by rfl) (by decide) ?_
      refine G.aload_n X 148 dX6_count_147 rfl rfl ?_
      refine G.getR X fl_X6_7 151 dX6_count_148 rfl (hY).1 (ShY.r0 hY) ?_
      refine G.bipush X 153 dX6_count_151 rfl (by decide) ?_
      refine G.iald X (i := 7) 154 dX6_count_153 rfl ((ShY.a0 hY)).1 (((ShY.a0 hY)).2 _) rfl (by omega) (by decide) ?_
      refine G.iret X dX6_count_154 ⟨Nat.le_refl _, Nat.le_refl _⟩ ⟨rfl, rfl, rfl, _, rfl, ?_⟩
      refine ⟨?_, rfl⟩
      unfold cntF
      rw [if_neg (by decide), if_neg (by decide), if_neg (by decide), if_neg (by decide), if_neg (by decide), if_neg (by decide), if_neg (by decide), if_neg (by decide), if_neg (by decide), if_pos rfl]
    · subst hsw2
      refine G.tableIn X 155 dX6_count_1 (by omega) (by omega) (by omega) (by rfl) (by decide) ?_
      refine G.aload_n X 156 dX6_count_155 rfl rfl ?_
      refine G.vI0 (d := 2) X ml_X6_170 yv_X6_openSites 159 dX6_count_156 rfl (c_X6_openSites l D Bs _ kd rf _ y hY hV) ⟨_, _, (hY).1, rfl, rfl⟩ (by decide) ⟨Nat.zero_le _, Nat.zero_le _⟩ (Nat.le_of_ble_eq_true rfl) (fun r156 M156 h156 => ?_)
      obtain ⟨hr156, hm156⟩ := h156
      subst hr156
      obtain rfl := hm156.symm
      refine G.iret X dX6_count_159 ⟨Nat.le_refl _, Nat.le_refl _⟩ ⟨rfl, rfl, rfl, _, rfl, ?_⟩
      refine ⟨?_, rfl⟩
      unfold cntF
      rw [if_neg (by decide), if_neg (by decide), if_neg (by decide), if_neg (by decide), if_neg (by decide), if_neg (by decide), if_neg (by decide), if_neg (by decide), if_neg (by decide), if_neg (by decide), if_pos rfl]
    · subst hsw2
      refine G.tableIn X 160 dX6_count_1 (by omega) (by omega) (by omega) (by rfl) (by decide) ?_
      refine G.aload_n X 161 dX6_count_160 rfl rfl ?_
      refine G.getR X fl_X6_7 164 dX6_count_161 rfl (hY).1 (ShY.r0 hY) ?_
      refine G.bipush X 166 dX6_count_164 rfl (by decide) ?_
      refine G.iald X (i := 8) 167 dX6_count_166 rfl ((ShY.a0 hY)).1 (((ShY.a0 hY)).2 _) rfl (by omega) (by decide) ?_
      refine G.iret X dX6_count_167 ⟨Nat.le_refl _, Nat.le_refl _⟩ ⟨rfl, rfl, rfl, _, rfl, ?_⟩
      refine ⟨?_, rfl⟩
      unfold cntF
      rw [if_neg (by decide), if_neg (by decide), if_neg (by decide), if_neg (by decide), if_neg (by decide), if_neg (by decide), if_neg (by decide), if_neg (by decide), if_neg (by decide), if_neg (by decide), if_neg (by decide), if_pos rfl]
    · subst hsw2
      refine G.tableIn X 168 dX6_count_1 (by omega) (by omega) (by omega) (by rfl) (by decide) ?_
      refine G.aload_n X 169 dX6_count_168 rfl rfl ?_
      refine G.getR X fl_X6_7 172 dX6_count_169 rfl (hY).1 (ShY.r0 hY) ?_
      refine G.bipush X 174 dX6_count_172 rfl (by decide) ?_
      refine G.iald X (i := 9) 175 dX6_count_174 rfl ((ShY.a0 hY)).1 (((ShY.a0 hY)).2 _) rfl (by omega) (by decide) ?_
      refine G.iret X dX6_count_175 ⟨Nat.le_refl _, Nat.le_refl _⟩ ⟨rfl, rfl, rfl, _, rfl, ?_⟩
      refine ⟨?_, rfl⟩
      unfold cntF
      rw [if_neg (by decide), if_neg (by decide), if_neg (by decide), if_neg (by decide), if_neg (by decide), if_neg (by decide), if_neg (by decide), if_neg (by decide), if_neg (by decide), if_neg (by decide), if_neg (by decide), if_neg (by decide), if_pos rfl]
    · subst hsw2
      refine G.tableIn X 176 dX6_count_1 (by omega) (by omega) (by omega) (by rfl) (by decide) ?_
      refine G.aload_n X 177 dX6_count_176 rfl rfl ?_
      refine G.getR X fl_X6_7 180 dX6_count_177 rfl (hY).1 (ShY.r0 hY) ?_
      refine G.bipush X 182 dX6_count_180 rfl (by decide) ?_
      refine G.iald X (i := 10) 183 dX6_count_182 rfl ((ShY.a0 hY)).1 (((ShY.a0 hY)).2 _) rfl (by omega) (by decide) ?_
      refine G.iret X dX6_count_183 ⟨Nat.le_refl _, Nat.le_refl _⟩ ⟨rfl, rfl, rfl, _, rfl, ?_⟩
      refine ⟨?_, rfl⟩
      unfold cntF
      rw [if_neg (by decide), if_neg (by decide), if_neg (by decide), if_neg (by decide), if_neg (by decide), if_neg (by decide), if_neg (by decide), if_neg (by decide), if_neg (by decide), if_neg (by decide), if_neg (by decide), if_neg (by decide), if_neg (by decide), if_pos rfl]
    · subst hsw2
      refine G.tableIn X 184 dX6_count_1 (by omega) (by omega) (by omega) (by rfl) (by decide) ?_
      refine G.aload_n X 185 dX6_count_184 rfl rfl ?_
      refine G.getR X fl_X6_7 188 dX6_count_185 rfl (hY).1 (ShY.r0 hY) ?_
      refine G.bipush X 190 dX6_count_188 rfl (by decide) ?_
      refine G.iald X (i := 11) 191 dX6_count_190 rfl ((ShY.a0 hY)).1 (((ShY.a0 hY)).2 _) rfl (by omega) (by decide) ?_
      refine G.iret X dX6_count_191 ⟨Nat.le_refl _, Nat.le_refl _⟩ ⟨rfl, rfl, rfl, _, rfl, ?_⟩
      refine ⟨?_, rfl⟩
      unfold cntF
      rw [if_neg (by decide), if_neg (by decide), if_neg (by decide), if_neg (by decide), if_neg (by decide), if_neg (by decide), if_neg (by decide), if_neg (by decide), if_neg (by decide), if_neg (by decide), if_neg (by decide), if_neg (by decide), if_neg (by decide), if_neg (by decide), if_pos rfl]
    · subst hsw2
      refine G.tableIn X 192 dX6_count_1 (by omega) (by omega) (by omega) (by rfl) (by decide) ?_
      refine G.aload_n X 193 dX6_count_192 rfl rfl ?_
      refine G.getf (v := vi ((h.length : Int))) X fl_X6_32 196 dX6_count_193 rfl (hY).1 ((xV_int ((hY).2.1 2 (by decide))).trans (congrArg vi ?_)) ?_
      · exact hM.2.1.1
      refine G.iret X dX6_count_196 ⟨Nat.le_refl _, Nat.le_refl _⟩ ⟨rfl, rfl, rfl, _, rfl, ?_⟩
      refine ⟨?_, rfl⟩
      unfold cntF
      rw [if_neg (by decide), if_neg (by decide), if_neg (by decide), if_neg (by decide), if_neg (by decide), if_neg (by decide), if_neg (by decide), if_neg (by decide), if_neg (by decide), if_neg (by decide), if_neg (by decide), if_neg (by decide), if_neg (by decide), if_neg (by decide), if_neg (by decide), if_pos rfl]
    · subst hsw2
      refine G.tableIn X 197 dX6_count_1 (by omega) (by omega) (by omega) (by rfl) (by decide) ?_
      refine G.aload_n X 198 dX6_count_197 rfl rfl ?_
      refine G.getf (v := vi ((t.length : Int))) X fl_X6_140 201 dX6_count_198 rfl (hY).1 ((xV_int ((hY).2.1 7 (by decide))).trans (congrArg vi ?_)) ?_
      · exact hM.2.2.2.2.1.1
      refine G.iret X dX6_count_201 ⟨Nat.le_refl _, Nat.le_refl _⟩ ⟨rfl, rfl, rfl, _, rfl, ?_⟩
      refine ⟨?_, rfl⟩
      unfold cntF
      rw [if_neg (by decide), if_neg (by decide), if_neg (by decide), if_neg (by decide), if_neg (by decide), if_neg (by decide), if_neg (by decide), if_neg (by decide), if_neg (by decide), if_neg (by decide), if_neg (by decide), if_neg (by decide), if_neg (by decide), if_neg (by decide), if_neg (by decide), if_neg (by decide), if_pos rfl]
  · refine G.tableOut X 202 dX6_count_1 (by omega) (by omega) (by decide) ?_
    refine G.bipush X 204 dX6_count_202 rfl (by decide) ?_
    refine G.iret X dX6_count_204 ⟨Nat.le_refl _, Nat.le_refl _⟩ ⟨rfl, rfl, rfl, _, rfl, ?_⟩
    refine ⟨?_, rfl⟩
    unfold cntF
    rw [if_neg (by omega), if_neg (by omega), if_neg (by omega), if_neg (by omega), if_neg (by omega), if_neg (by omega), if_neg (by omega), if_neg (by omega), if_neg (by omega), if_neg (by omega), if_neg (by omega), if_neg (by omega), if_neg (by omega), if_neg (by omega), if_neg (by omega), if_neg (by omega), if_neg (by omega)]
