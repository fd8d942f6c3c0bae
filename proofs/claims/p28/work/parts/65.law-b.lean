theorem nth_pr {L : List Nat} {i j : Nat} (h0 : 0 < i) (hi : i - 1 < L.length) (hj : L.getD (i - 1) 0 = j) : nthF L ((i : Int) - 1) = (j : Int) := by
  rw [show (i : Int) - 1 = ((i - 1 : Nat) : Int) by omega]
  exact nth_in hi hj
theorem hl_rng {r : xR} {w d : Int} {i : Nat} (hV : Vb r w d) (hi : i < nS r) : 0 ≤ hoursL r i ∧ hoursL r i ≤ 500 := by
  have v := hV.2.1 i hi
  unfold Vset at v
  unfold hoursL
  have h1 := Int.ediv_nonneg (a := fS r i 4) (b := fS r i 2) (by omega) (by omega)
  have h2 := Int.ediv_le_self (a := fS r i 4) (fS r i 2) (by omega)
  omega
theorem fore_w0 {r : xR} {n : Nat} (hn : 1 ≤ n ∧ n ≤ 24) (h0 : r 0 + n ≤ 999) : foreF (n : Int) 0 r = hoursR r n 8 - r 8 := by
  unfold foreF
  rw [if_neg (by omega), if_neg (by omega), Int.toNat_natCast]
  rfl
theorem fore_w1 {r : xR} {n : Nat} (hn : 1 ≤ n ∧ n ≤ 24) (h0 : r 0 + n ≤ 999) : foreF (n : Int) 1 r = hoursR r n 9 - r 9 := by
  unfold foreF
  rw [if_neg (by omega), if_neg (by omega), Int.toNat_natCast]
  rfl
theorem fore_w2 {r : xR} {n : Nat} (hn : 1 ≤ n ∧ n ≤ 24) (h0 : r 0 + n ≤ 999) : foreF (n : Int) 2 r = hoursR r n 4 - r 4 := by
  unfold foreF
  rw [if_neg (by omega), if_neg (by omega), Int.toNat_natCast]
  rfl
set_option maxHeartbeats 2000000 in
set_option maxRecDepth 100000 in
theorem c_L_sites (l : Launch) (D : xD) (Bs sz : Nat) (kd : xKd) (rf : xRf) (M : xM) (a : Nat) (r : xR) (h : List xR) (sn : Option xR) (hO : Ob kd rf a M r h sn) : CtI l D Bs yL_sites cL_sites 13 (some .boolean) 7 [.ref a] sz kd rf M (fun q M' => q = 1 ∧ Ob kd rf a M' r h sn) := by
  refine Ctr.of (ys_L_sites.1.2.2.2.2) (List.forall_mem_cons.mpr ⟨rfl, fun _ h => absurd h List.not_mem_nil⟩) (Nat.le_of_ble_eq_true rfl) [some (.ref a), none, none, none, none, none, none, none, none, none, none, none, none] rfl ?_
  intro p e s m args below meth c X hin
  obtain ⟨hX, hI, hC⟩ := id hO
  have hV := hI.1.1.1
  have hJ := hI.1.2
  obtain ⟨n6, n6b⟩ := hV.n6
  obtain ⟨n7, n7b⟩ := hV.n7
  have hz0 := hV.1.1
  have L528 : ∀ (k : Nat) (i : Nat) (t1 t5 : Int) (M : xM), i + k = (thirL r).length → t1 = ((needL r).length : Int) → t5 = ((thirL r).length : Int) → Ob kd rf a M r h sn → G p l e (rmd 7) s m args below meth c D Bs 13 0 0 (MQ below (xQ D Bs (pI sz kd rf (fun q M' => q = 1 ∧ Ob kd rf a M' r h sn))) args s 0 0 (fun q => Bs ≤ q)) sz kd rf (M) 528 [some (.ref a), some (vi t1), none, none, none, some (vi t5), none, none, none, some (vi (i : Int)), none, none, none] [] := by
    intro k
    induction k with
    | zero =>
      intro i t1 t5 M hik s1 s5 hO
      have nl := needL_len n7b
      have tl := thirL_len n7b
      refine G.iload X 530 dL_sites_528 rfl rfl ?_
      refine G.iload X 532 dL_sites_530 rfl rfl ?_
      refine G.icmp_ge X 646 535 dL_sites_532 (by decide) rfl (by omega) (by omega) (fun hc532 => ?_) (fun hc532 => by exfalso; omega)
      refine G.aload_n X 647 dL_sites_646 rfl rfl ?_
      refine G.iload_n X 648 dL_sites_647 rfl rfl ?_
      refine GS.needy X hO ml_L_32 651 dL_sites_648 rfl (nth_out (by omega)) (by omega) (by decide) ⟨Nat.zero_le _, Nat.zero_le _⟩ (Nat.le_of_ble_eq_true rfl) (fun M hO => ?_)
      refine G.bipush X 653 dL_sites_651 rfl (by decide) ?_
      refine G.icmp_ne X 702 656 dL_sites_653 (by decide) rfl (by omega) (by omega) (fun hc653 => by exact absurd hc653 (by decide)) (fun hc653 => ?_)
      refine G.aload_n X 657 dL_sites_656 rfl rfl ?_
      refine G.iload X 659 dL_sites_657 rfl rfl ?_
      refine GS.thirsty X hO ml_L_41 662 dL_sites_659 rfl (nth_out (by omega)) (by omega) (by decide) ⟨Nat.zero_le _, Nat.zero_le _⟩ (Nat.le_of_ble_eq_true rfl) (fun M hO => ?_)
      refine G.bipush X 664 dL_sites_662 rfl (by decide) ?_
      refine G.icmp_ne X 702 667 dL_sites_664 (by decide) rfl (by omega) (by omega) (fun hc664 => by exact absurd hc664 (by decide)) (fun hc664 => ?_)
      refine G.aload_n X 668 dL_sites_667 rfl rfl ?_
      refine G.iconst X 669 dL_sites_668 rfl ?_
      refine GS.needy X hO ml_L_32 672 dL_sites_669 rfl (nth_neg (by decide)) (by decide) (by decide) ⟨Nat.zero_le _, Nat.zero_le _⟩ (Nat.le_of_ble_eq_true rfl) (fun M hO => ?_)
      refine G.bipush X 674 dL_sites_672 rfl (by decide) ?_
      refine G.icmp_ne X 702 677 dL_sites_674 (by decide) rfl (by omega) (by omega) (fun hc674 => by exact absurd hc674 (by decide)) (fun hc674 => ?_)
      refine G.aload_n X 678 dL_sites_677 rfl rfl ?_
      refine G.iconst X 679 dL_sites_678 rfl ?_
      refine GS.thirsty X hO ml_L_41 682 dL_sites_679 rfl (nth_neg (by decide)) (by decide) (by decide) ⟨Nat.zero_le _, Nat.zero_le _⟩ (Nat.le_of_ble_eq_true rfl) (fun M hO => ?_)
      refine G.bipush X 684 dL_sites_682 rfl (by decide) ?_
      refine G.icmp_ne X 702 687 dL_sites_684 (by decide) rfl (by omega) (by omega) (fun hc684 => by exact absurd hc684 (by decide)) (fun hc684 => ?_)
      refine G.aload_n X 688 dL_sites_687 rfl rfl ?_
      refine G.bipush X 690 dL_sites_688 rfl (by decide) ?_
      refine GS.count X hO ml_L_13 693 dL_sites_690 rfl (cnt_17) (by decide) (by decide) ⟨Nat.zero_le _, Nat.zero_le _⟩ (Nat.le_of_ble_eq_true rfl) (fun M hO => ?_)
      refine G.bipush X 695 dL_sites_693 rfl (by decide) ?_
      refine G.icmp_ne X 702 698 dL_sites_695 (by decide) rfl (by omega) (by omega) (fun hc695 => by exact absurd hc695 (by decide)) (fun hc695 => ?_)
      refine G.iconst X 699 dL_sites_698 rfl ?_
      refine G.goto X 703 dL_sites_699 (by decide) ?_
      refine G.zret X dL_sites_703 ⟨Nat.le_refl _, Nat.le_refl _⟩ (Or.inr rfl) ⟨rfl, rfl, rfl, _, rfl, ?_⟩
      exact ⟨rfl, hO⟩
    | succ k ih =>
      intro i t1 t5 M hik s1 s5 hO
      have nl := needL_len n7b
      have tl := thirL_len n7b
      obtain ⟨x, hx⟩ : ∃ x, (thirL r).getD i 0 = x := ⟨_, rfl⟩
      obtain ⟨hxC, hxo⟩ := thirL_in (r := r) (i := i) (by omega)
      rw [hx] at hxC hxo
      have hxo := hasB_iff.mp hxo
      obtain ⟨m, e4, hm⟩ : ∃ m : Nat, fC r x 4 = (m : Int) + 1 ∧ m < nS r := (hV.s4 hxC).resolve_left (by omega)
      have hlm := hl_rng hV hm
      refine G.iload X 530 dL_sites_528 rfl rfl ?_
      refine G.iload X 532 dL_sites_530 rfl rfl ?_
      refine G.icmp_ge X 646 535 dL_sites_532 (by decide) rfl (by omega) (by omega) (fun hc532 => by exfalso; omega) (fun hc532 => ?_)
      by_cases h0 : i = 0
      · skip
        refine G.aload_n X 536 dL_sites_535 rfl rfl ?_
        refine G.iload X 538 dL_sites_536 rfl rfl ?_
        refine GS.thirsty X hO ml_L_41 541 dL_sites_538 rfl (nth_in (by omega) hx) (by omega) (by decide) ⟨Nat.zero_le _, Nat.zero_le _⟩ (Nat.le_of_ble_eq_true rfl) (fun M hO => ?_)
        refine G.istore (ls' := [_, _, _, _, _, _, _, _, _, _, _, _, _]) X 543 dL_sites_541 rfl (by decide) rfl ?_
        refine G.iload X 545 dL_sites_543 rfl rfl ?_
        refine G.if_le X 559 548 dL_sites_545 (by decide) rfl (by omega) (fun hc545 => ?_) (fun hc545 => by exfalso; omega)
        refine G.iconst X 560 dL_sites_559 rfl ?_
        refine G.istore (ls' := [_, _, _, _, _, _, _, _, _, _, _, _, _]) X 562 dL_sites_560 rfl (by decide) rfl ?_
        refine G.iload X 564 dL_sites_562 rfl rfl ?_
        refine G.if_lt X 577 567 dL_sites_564 (by decide) rfl (by omega) (fun hc564 => by omega) (fun hc564 => ?_)
        refine G.aload_n X 568 dL_sites_567 rfl rfl ?_
        refine G.iload X 570 dL_sites_568 rfl rfl ?_
        refine G.iconst X 571 dL_sites_570 rfl ?_
        refine GS.site X hO ml_L_23 574 dL_sites_571 rfl (sit_4p (i := x) (j := m) (by omega) (by omega)) (by omega) (by decide) (by decide) ⟨Nat.zero_le _, Nat.zero_le _⟩ (Nat.le_of_ble_eq_true rfl) ?_
        refine G.if_ge X 579 577 dL_sites_574 (by decide) rfl (by omega) (fun hc574 => ?_) (fun hc574 => by omega)
        refine G.iload X 581 dL_sites_579 rfl rfl ?_
        refine G.if_le X 614 584 dL_sites_581 (by decide) rfl (by omega) (fun hc581 => ?_) (fun hc581 => by exfalso; omega)
        refine G.iconst X 615 dL_sites_614 rfl ?_
        refine G.istore (ls' := [_, _, _, _, _, _, _, _, _, _, _, _, _]) X 617 dL_sites_615 rfl (by decide) rfl ?_
        refine G.iload X 619 dL_sites_617 rfl rfl ?_
        refine G.if_lt X 638 622 dL_sites_619 (by decide) rfl (by omega) (fun hc619 => by exact absurd hc619 (by decide)) (fun hc619 => ?_)
        refine G.iload X 624 dL_sites_622 rfl rfl ?_
        refine G.if_ne X 640 627 dL_sites_624 (by decide) rfl (by omega) (fun hc624 => ?_) (fun hc624 => by exact absurd hc624 (by decide))
        refine G.iinc (ls' := [_, _, _, _, _, _, _, _, _, _, _, _, _]) X 643 dL_sites_640 rfl rfl (by decide) rfl ?_
        refine G.goto X 528 dL_sites_643 (by decide) ?_
        refine G.drop 10 ?_
        refine G.drop 11 ?_
        refine G.drop 12 ?_
        exact ih (i + 1) t1 t5 M (by omega) s1 s5 hO
      · obtain ⟨y, hy⟩ : ∃ y, (thirL r).getD (i - 1) 0 = y := ⟨_, rfl⟩
        obtain ⟨hyC, hyo⟩ := thirL_in (r := r) (i := i - 1) (by omega)
        rw [hy] at hyC hyo
        have hyo := hasB_iff.mp hyo
        obtain ⟨u, e4y, hu⟩ : ∃ u : Nat, fC r y 4 = (u : Int) + 1 ∧ u < nS r := (hV.s4 hyC).resolve_left (by omega)
        have hlu := hl_rng hV hu
        have hN := thir_ord hV (i := i - 1) (by omega)
        rw [show i - 1 + 1 = i by omega, hx, hy, hasN_is e4, hasN_is e4y] at hN
        refine G.aload_n X 536 dL_sites_535 rfl rfl ?_
        refine G.iload X 538 dL_sites_536 rfl rfl ?_
        refine GS.thirsty X hO ml_L_41 541 dL_sites_538 rfl (nth_in (by omega) hx) (by omega) (by decide) ⟨Nat.zero_le _, Nat.zero_le _⟩ (Nat.le_of_ble_eq_true rfl) (fun M hO => ?_)
        refine G.istore (ls' := [_, _, _, _, _, _, _, _, _, _, _, _, _]) X 543 dL_sites_541 rfl (by decide) rfl ?_
        refine G.iload X 545 dL_sites_543 rfl rfl ?_
        refine G.if_le X 559 548 dL_sites_545 (by decide) rfl (by omega) (fun hc545 => by exfalso; omega) (fun hc545 => ?_)
        refine G.aload_n X 549 dL_sites_548 rfl rfl ?_
        refine G.iload X 551 dL_sites_549 rfl rfl ?_
        refine G.iconst X 552 dL_sites_551 rfl ?_
        refine G.isub X 553 dL_sites_552 rfl ?_
        refine GS.thirsty X hO ml_L_41 556 dL_sites_553 rfl (nth_pr (by omega) (by omega) hy) (by omega) (by decide) ⟨Nat.zero_le _, Nat.zero_le _⟩ (Nat.le_of_ble_eq_true rfl) (fun M hO => ?_)
        refine G.goto X 560 dL_sites_556 (by decide) ?_
        refine G.istore (ls' := [_, _, _, _, _, _, _, _, _, _, _, _, _]) X 562 dL_sites_560 rfl (by decide) rfl ?_
        refine G.iload X 564 dL_sites_562 rfl rfl ?_
        refine G.if_lt X 577 567 dL_sites_564 (by decide) rfl (by omega) (fun hc564 => by omega) (fun hc564 => ?_)
        refine G.aload_n X 568 dL_sites_567 rfl rfl ?_
        refine G.iload X 570 dL_sites_568 rfl rfl ?_
        refine G.iconst X 571 dL_sites_570 rfl ?_
        refine GS.site X hO ml_L_23 574 dL_sites_571 rfl (sit_4p (i := x) (j := m) (by omega) (by omega)) (by omega) (by decide) (by decide) ⟨Nat.zero_le _, Nat.zero_le _⟩ (Nat.le_of_ble_eq_true rfl) ?_
        refine G.if_ge X 579 577 dL_sites_574 (by decide) rfl (by omega) (fun hc574 => ?_) (fun hc574 => by omega)
        refine G.iload X 581 dL_sites_579 rfl rfl ?_
        refine G.if_le X 614 584 dL_sites_581 (by decide) rfl (by omega) (fun hc581 => by exfalso; omega) (fun hc581 => ?_)
        refine G.aload_n X 585 dL_sites_584 rfl rfl ?_
        refine G.aload_n X 586 dL_sites_585 rfl rfl ?_
        refine G.iload X 588 dL_sites_586 rfl rfl ?_
        refine G.iconst X 589 dL_sites_588 rfl ?_
        refine GS.site X hO ml_L_23 592 dL_sites_589 rfl (sit_4p (i := x) (j := m) (by omega) (by omega)) (by omega) (by decide) (by decide) ⟨Nat.zero_le _, Nat.zero_le _⟩ (Nat.le_of_ble_eq_true rfl) ?_
        refine G.bipush X 594 dL_sites_592 rfl (by decide) ?_
        refine GS.set X hO ml_L_19 597 dL_sites_594 rfl (set_9 (i := m) (by omega)) (by omega) (by decide) (by decide) ⟨Nat.zero_le _, Nat.zero_le _⟩ (Nat.le_of_ble_eq_true rfl) ?_
        refine G.aload_n X 598 dL_sites_597 rfl rfl ?_
        refine G.aload_n X 599 dL_sites_598 rfl rfl ?_
        refine G.iload X 601 dL_sites_599 rfl rfl ?_
        refine G.iconst X 602 dL_sites_601 rfl ?_
        refine GS.site X hO ml_L_23 605 dL_sites_602 rfl (sit_4p (i := y) (j := u) (by omega) (by omega)) (by omega) (by decide) (by decide) ⟨Nat.zero_le _, Nat.zero_le _⟩ (Nat.le_of_ble_eq_true rfl) ?_
        refine G.bipush X 607 dL_sites_605 rfl (by decide) ?_
        refine GS.set X hO ml_L_19 610 dL_sites_607 rfl (set_9 (i := u) (by omega)) (by omega) (by decide) (by decide) ⟨Nat.zero_le _, Nat.zero_le _⟩ (Nat.le_of_ble_eq_true rfl) ?_
        refine G.isub X 611 dL_sites_610 rfl ?_
        refine G.goto X 615 dL_sites_611 (by decide) ?_
        refine G.istore (ls' := [_, _, _, _, _, _, _, _, _, _, _, _, _]) X 617 dL_sites_615 rfl (by decide) rfl ?_
        refine G.iload X 619 dL_sites_617 rfl rfl ?_
        refine G.if_lt X 638 622 dL_sites_619 (by decide) rfl (by omega) (fun hc619 => by exfalso; omega) (fun hc619 => ?_)
        refine G.iload X 624 dL_sites_622 rfl rfl ?_
        refine G.if_ne X 640 627 dL_sites_624 (by decide) rfl (by omega) (fun hc624 => ?_) (fun hc624 => ?_)
        · refine G.iinc (ls' := [_, _, _, _, _, _, _, _, _, _, _, _, _]) X 643 dL_sites_640 rfl rfl (by decide) rfl ?_
          refine G.goto X 528 dL_sites_643 (by decide) ?_
          refine G.drop 10 ?_
          refine G.drop 11 ?_
          refine G.drop 12 ?_
          exact ih (i + 1) t1 t5 M (by omega) s1 s5 hO
        · refine G.aload_n X 628 dL_sites_627 rfl rfl ?_
          refine G.iload X 630 dL_sites_628 rfl rfl ?_
          refine G.iload X 632 dL_sites_630 rfl rfl ?_
          refine G.sI3 (d := 2) X ml_L_35 ys_L_needier 635 dL_sites_632 rfl (c_L_needier l D Bs sz kd rf M a r h sn hO y x hyC hxC (hN.2 (by omega))) (by decide) ⟨Nat.zero_le _, Nat.zero_le _⟩ (Nat.le_of_ble_eq_true rfl) (fun q632 M632 hq632 => ?_)
          obtain ⟨hq632, hm632⟩ := hq632
          rw [hq632, hm632]
          refine G.if_ne X 640 638 dL_sites_635 (by decide) rfl (by omega) (fun hc635 => ?_) (fun hc635 => by exact absurd hc635 (by decide))
          refine G.iinc (ls' := [_, _, _, _, _, _, _, _, _, _, _, _, _]) X 643 dL_sites_640 rfl rfl (by decide) rfl ?_
          refine G.goto X 528 dL_sites_643 (by decide) ?_
          refine G.drop 10 ?_
          refine G.drop 11 ?_
          refine G.drop 12 ?_
          exact ih (i + 1) t1 t5 M (by omega) s1 s5 hO
  have L464 : ∀ (k : Nat) (i : Nat) (t1 t5 : Int) (M : xM), i + k = (needL r).length → t1 = ((needL r).length : Int) → t5 = ((thirL r).length : Int) → Ob kd rf a M r h sn → G p l e (rmd 7) s m args below meth c D Bs 13 0 0 (MQ below (xQ D Bs (pI sz kd rf (fun q M' => q = 1 ∧ Ob kd rf a M' r h sn))) args s 0 0 (fun q => Bs ≤ q)) sz kd rf (M) 464 [some (.ref a), some (vi t1), none, none, none, some (vi t5), none, none, none, some (vi (i : Int)), none, none, none] [] := by
    intro k
    induction k with
    | zero =>
      intro i t1 t5 M hik s1 s5 hO
      have nl := needL_len n7b
      have tl := thirL_len n7b
      refine G.iload X 466 dL_sites_464 rfl rfl ?_
      refine G.iload_n X 467 dL_sites_466 rfl rfl ?_
      refine G.icmp_ge X 525 470 dL_sites_467 (by decide) rfl (by omega) (by omega) (fun hc467 => ?_) (fun hc467 => by exfalso; omega)
      refine G.iconst X 526 dL_sites_525 rfl ?_
      refine G.istore (ls' := [_, _, _, _, _, _, _, _, _, _, _, _, _]) X 528 dL_sites_526 rfl (by decide) rfl ?_
      exact L528 (thirL r).length 0 t1 t5 M (by omega) s1 s5 hO
    | succ k ih =>
      intro i t1 t5 M hik s1 s5 hO
      have nl := needL_len n7b
      have tl := thirL_len n7b
      obtain ⟨x, hx⟩ : ∃ x, (needL r).getD i 0 = x := ⟨_, rfl⟩
      obtain ⟨hxC, hxo⟩ := needL_in (r := r) (i := i) (by omega)
      rw [hx] at hxC hxo
      refine G.iload X 466 dL_sites_464 rfl rfl ?_
      refine G.iload_n X 467 dL_sites_466 rfl rfl ?_
      refine G.icmp_ge X 525 470 dL_sites_467 (by decide) rfl (by omega) (by omega) (fun hc467 => by exfalso; omega) (fun hc467 => ?_)
      refine G.aload_n X 471 dL_sites_470 rfl rfl ?_
      refine G.iload X 473 dL_sites_471 rfl rfl ?_
      refine GS.needy X hO ml_L_32 476 dL_sites_473 rfl (nth_in (by omega) hx) (by omega) (by decide) ⟨Nat.zero_le _, Nat.zero_le _⟩ (Nat.le_of_ble_eq_true rfl) (fun M hO => ?_)
      refine G.istore (ls' := [_, _, _, _, _, _, _, _, _, _, _, _, _]) X 478 dL_sites_476 rfl (by decide) rfl ?_
      refine G.iload X 480 dL_sites_478 rfl rfl ?_
      refine G.if_lt X 517 483 dL_sites_480 (by decide) rfl (by omega) (fun hc480 => by omega) (fun hc480 => ?_)
      refine G.aload_n X 484 dL_sites_483 rfl rfl ?_
      refine G.iload X 486 dL_sites_484 rfl rfl ?_
      refine G.bipush X 488 dL_sites_486 rfl (by decide) ?_
      refine GS.site X hO ml_L_23 491 dL_sites_488 rfl (sit_9t (i := x) (by omega) hxo) (by omega) (by decide) (by decide) ⟨Nat.zero_le _, Nat.zero_le _⟩ (Nat.le_of_ble_eq_true rfl) ?_
      refine G.iconst X 492 dL_sites_491 rfl ?_
      refine G.icmp_ne X 517 495 dL_sites_492 (by decide) rfl (by omega) (by omega) (fun hc492 => by exact absurd hc492 (by decide)) (fun hc492 => ?_)
      refine G.iload X 497 dL_sites_495 rfl rfl ?_
      refine G.if_le X 519 500 dL_sites_497 (by decide) rfl (by omega) (fun hc497 => ?_) (fun hc497 => ?_)
      · refine G.iinc (ls' := [_, _, _, _, _, _, _, _, _, _, _, _, _]) X 522 dL_sites_519 rfl rfl (by decide) rfl ?_
        refine G.goto X 464 dL_sites_522 (by decide) ?_
        refine G.drop 10 ?_
        exact ih (i + 1) t1 t5 M (by omega) s1 s5 hO
      · obtain ⟨y, hy⟩ : ∃ y, (needL r).getD (i - 1) 0 = y := ⟨_, rfl⟩
        obtain ⟨hyC, hyo⟩ := needL_in (r := r) (i := i - 1) (by omega)
        rw [hy] at hyC hyo
        have hN := need_ord hV (i := i - 1) (by omega)
        rw [show i - 1 + 1 = i by omega, hx, hy] at hN
        refine G.aload_n X 501 dL_sites_500 rfl rfl ?_
        refine G.aload_n X 502 dL_sites_501 rfl rfl ?_
        refine G.iload X 504 dL_sites_502 rfl rfl ?_
        refine G.iconst X 505 dL_sites_504 rfl ?_
        refine G.isub X 506 dL_sites_505 rfl ?_
        refine GS.needy X hO ml_L_32 509 dL_sites_506 rfl (nth_pr (by omega) (by omega) hy) (by omega) (by decide) ⟨Nat.zero_le _, Nat.zero_le _⟩ (Nat.le_of_ble_eq_true rfl) (fun M hO => ?_)
        refine G.iload X 511 dL_sites_509 rfl rfl ?_
        refine G.sI3 (d := 2) X ml_L_35 ys_L_needier 514 dL_sites_511 rfl (c_L_needier l D Bs sz kd rf M a r h sn hO y x hyC hxC (hN)) (by decide) ⟨Nat.zero_le _, Nat.zero_le _⟩ (Nat.le_of_ble_eq_true rfl) (fun q511 M511 hq511 => ?_)
        obtain ⟨hq511, hm511⟩ := hq511
        rw [hq511, hm511]
        refine G.if_ne X 519 517 dL_sites_514 (by decide) rfl (by omega) (fun hc514 => ?_) (fun hc514 => by exact absurd hc514 (by decide))
        refine G.iinc (ls' := [_, _, _, _, _, _, _, _, _, _, _, _, _]) X 522 dL_sites_519 rfl rfl (by decide) rfl ?_
        refine G.goto X 464 dL_sites_522 (by decide) ?_
        refine G.drop 10 ?_
        exact ih (i + 1) t1 t5 M (by omega) s1 s5 hO
  have L25 : ∀ (k : Nat) (i : Nat) (t1 t2 t3 t4 t5 t6 : Int) (M : xM), i + k = nC r → t1 = sumN (opI r) i → t2 = sumN (fun q => fC r q 5) i → t3 = sumN (fun q => fC r q 6) i → t4 = sumN (fun q => fC r q 7) i → t5 = sumN (owI r) i → t6 = sumN (wdI r) i → Ob kd rf a M r h sn → G p l e (rmd 7) s m args below meth c D Bs 13 0 0 (MQ below (xQ D Bs (pI sz kd rf (fun q M' => q = 1 ∧ Ob kd rf a M' r h sn))) args s 0 0 (fun q => Bs ≤ q)) sz kd rf (M) 25 [some (.ref a), some (vi t1), some (vi t2), some (vi t3), some (vi t4), some (vi t5), some (vi t6), some (vi (r 0)), some (vi (i : Int)), none, none, none, none] [] := by
    intro k
    induction k with
    | zero =>
      intro i t1 t2 t3 t4 t5 t6 M hik s1 s2 s3 s4 s5 s6 hO
      obtain rfl : i = nC r := by omega
      have hS := hI.1.1.2
      refine G.iload X 27 dL_sites_25 rfl rfl ?_
      refine G.aload_n X 28 dL_sites_27 rfl rfl ?_
      refine G.bipush X 30 dL_sites_28 rfl (by decide) ?_
      refine GS.count X hO ml_L_13 33 dL_sites_30 rfl (cnt_9) (by decide) (by decide) ⟨Nat.zero_le _, Nat.zero_le _⟩ (Nat.le_of_ble_eq_true rfl) (fun M hO => ?_)
      refine G.icmp_ge X 341 36 dL_sites_33 (by decide) rfl (by omega) (by omega) (fun hc33 => ?_) (fun hc33 => by exfalso; omega)
      refine G.aload_n X 342 dL_sites_341 rfl rfl ?_
      refine G.bipush X 344 dL_sites_342 rfl (by decide) ?_
      refine GS.count X hO ml_L_13 347 dL_sites_344 rfl (cnt_10) (by decide) (by decide) ⟨Nat.zero_le _, Nat.zero_le _⟩ (Nat.le_of_ble_eq_true rfl) (fun M hO => ?_)
      refine G.iload_n X 348 dL_sites_347 rfl rfl ?_
      refine G.neF X 351 dL_sites_348 419 (by decide) rfl ((needL_n r).trans s1.symm) ?_
      refine G.aload_n X 352 dL_sites_351 rfl rfl ?_
      refine G.bipush X 354 dL_sites_352 rfl (by decide) ?_
      refine GS.count X hO ml_L_13 357 dL_sites_354 rfl (cnt_11) (by decide) (by decide) ⟨Nat.zero_le _, Nat.zero_le _⟩ (Nat.le_of_ble_eq_true rfl) (fun M hO => ?_)
      refine G.iload_n X 358 dL_sites_357 rfl rfl ?_
      refine G.neF X 361 dL_sites_358 419 (by decide) rfl (hS.1.trans s2.symm) ?_
      refine G.aload_n X 362 dL_sites_361 rfl rfl ?_
      refine G.bipush X 364 dL_sites_362 rfl (by decide) ?_
      refine GS.count X hO ml_L_13 367 dL_sites_364 rfl (cnt_12) (by decide) (by decide) ⟨Nat.zero_le _, Nat.zero_le _⟩ (Nat.le_of_ble_eq_true rfl) (fun M hO => ?_)
      refine G.iload_n X 368 dL_sites_367 rfl rfl ?_
      refine G.neF X 371 dL_sites_368 419 (by decide) rfl (hS.2.1.trans s3.symm) ?_
      refine G.aload_n X 372 dL_sites_371 rfl rfl ?_
      refine G.bipush X 374 dL_sites_372 rfl (by decide) ?_
      refine GS.count X hO ml_L_13 377 dL_sites_374 rfl (cnt_13) (by decide) (by decide) ⟨Nat.zero_le _, Nat.zero_le _⟩ (Nat.le_of_ble_eq_true rfl) (fun M hO => ?_)
      refine G.iload X 379 dL_sites_377 rfl rfl ?_
      refine G.neF X 382 dL_sites_379 419 (by decide) rfl (hS.2.2.trans s4.symm) ?_
      refine G.iload X 384 dL_sites_382 rfl rfl ?_
      refine G.aload_n X 385 dL_sites_384 rfl rfl ?_
      refine G.bipush X 387 dL_sites_385 rfl (by decide) ?_
      refine GS.count X hO ml_L_13 390 dL_sites_387 rfl (cnt_7) (by decide) (by decide) ⟨Nat.zero_le _, Nat.zero_le _⟩ (Nat.le_of_ble_eq_true rfl) (fun M hO => ?_)
      refine G.aload_n X 391 dL_sites_390 rfl rfl ?_
      refine G.bipush X 393 dL_sites_391 rfl (by decide) ?_
      refine GS.count X hO ml_L_13 396 dL_sites_393 rfl (cnt_8) (by decide) (by decide) ⟨Nat.zero_le _, Nat.zero_le _⟩ (Nat.le_of_ble_eq_true rfl) (fun M hO => ?_)
      refine G.isub X 397 dL_sites_396 rfl ?_
      refine G.neF X 400 dL_sites_397 419 (by decide) rfl (s5.trans (own_sum hV hJ)) ?_
      refine G.aload_n X 401 dL_sites_400 rfl rfl ?_
      refine G.aload_n X 402 dL_sites_401 rfl rfl ?_
      refine G.bipush X 404 dL_sites_402 rfl (by decide) ?_
      refine GS.count X hO ml_L_13 407 dL_sites_404 rfl (cnt_9) (by decide) (by decide) ⟨Nat.zero_le _, Nat.zero_le _⟩ (Nat.le_of_ble_eq_true rfl) (fun M hO => ?_)
      refine G.iconst X 408 dL_sites_407 rfl ?_
      refine GS.site X hO ml_L_23 411 dL_sites_408 rfl (sit_no (by omega)) (by omega) (by decide) (by decide) ⟨Nat.zero_le _, Nat.zero_le _⟩ (Nat.le_of_ble_eq_true rfl) ?_
      refine G.iconst X 412 dL_sites_411 rfl ?_
      refine G.icmp_ne X 419 415 dL_sites_412 (by decide) rfl (by omega) (by omega) (fun hc412 => by exact absurd hc412 (by decide)) (fun hc412 => ?_)
      refine G.iconst X 416 dL_sites_415 rfl ?_
      refine G.goto X 420 dL_sites_416 (by decide) ?_
      refine G.istore (ls' := [_, _, _, _, _, _, _, _, _, _, _, _, _]) X 422 dL_sites_420 rfl (by decide) rfl ?_
      refine G.iload X 424 dL_sites_422 rfl rfl ?_
      refine G.if_eq X 459 427 dL_sites_424 (by decide) rfl (by omega) (fun hc424 => by exact absurd hc424 (by decide)) (fun hc424 => ?_)
      refine G.iload X 429 dL_sites_427 rfl rfl ?_
      refine G.sipush X 432 dL_sites_429 rfl (by decide) ?_
      refine G.icmp_ge X 461 435 dL_sites_432 (by decide) rfl (by omega) (by omega) (fun hc432 => ?_) (fun hc432 => ?_)
      · refine G.iconst X 462 dL_sites_461 rfl ?_
        refine G.istore (ls' := [_, _, _, _, _, _, _, _, _, _, _, _, _]) X 464 dL_sites_462 rfl (by decide) rfl ?_
        refine G.drop 2 ?_
        refine G.drop 3 ?_
        refine G.drop 4 ?_
        refine G.drop 6 ?_
        refine G.drop 7 ?_
        refine G.drop 8 ?_
        exact L464 (needL r).length 0 t1 t5 M (by omega) (s1.trans (needL_n r).symm) (s5.trans (thirL_n r).symm) hO
      · refine G.aload_n X 436 dL_sites_435 rfl rfl ?_
        refine G.iconst X 437 dL_sites_436 rfl ?_
        refine G.iconst X 438 dL_sites_437 rfl ?_
        refine GS.forecast X hO ml_L_29 441 dL_sites_438 rfl (fore_w0 (n := 1) (by omega) (by omega)) (by decide) (by decide) (by decide) ⟨Nat.zero_le _, Nat.zero_le _⟩ (Nat.le_of_ble_eq_true rfl) (fun M hO => ?_)
        refine G.iload X 443 dL_sites_441 rfl rfl ?_
        refine G.neF X 446 dL_sites_443 459 (by decide) rfl ((fore_1 hI.1).1.trans s6.symm) ?_
        refine G.aload_n X 447 dL_sites_446 rfl rfl ?_
        refine G.iconst X 448 dL_sites_447 rfl ?_
        refine G.iconst X 449 dL_sites_448 rfl ?_
        refine GS.forecast X hO ml_L_29 452 dL_sites_449 rfl (fore_w1 (n := 1) (by omega) (by omega)) (by decide) (by decide) (by decide) ⟨Nat.zero_le _, Nat.zero_le _⟩ (Nat.le_of_ble_eq_true rfl) (fun M hO => ?_)
        refine G.iload_n X 453 dL_sites_452 rfl rfl ?_
        refine G.iload X 455 dL_sites_453 rfl rfl ?_
        refine G.isub X 456 dL_sites_455 rfl ?_
        refine G.eqT X 461 dL_sites_456 (by decide) (by have := (fore_1 hI.1).2; omega) ?_
        refine G.iconst X 462 dL_sites_461 rfl ?_
        refine G.istore (ls' := [_, _, _, _, _, _, _, _, _, _, _, _, _]) X 464 dL_sites_462 rfl (by decide) rfl ?_
        refine G.drop 2 ?_
        refine G.drop 3 ?_
        refine G.drop 4 ?_
        refine G.drop 6 ?_
        refine G.drop 7 ?_
        refine G.drop 8 ?_
        exact L464 (needL r).length 0 t1 t5 M (by omega) (s1.trans (needL_n r).symm) (s5.trans (thirL_n r).symm) hO
    | succ k ih =>
      intro i t1 t2 t3 t4 t5 t6 M hik s1 s2 s3 s4 s5 s6 hO
      have hi : i < nC r := by omega
      have v := hV.2.2 i hi
      unfold Vsite at v
      refine G.iload X 27 dL_sites_25 rfl rfl ?_
      refine G.aload_n X 28 dL_sites_27 rfl rfl ?_
      refine G.bipush X 30 dL_sites_28 rfl (by decide) ?_
      refine GS.count X hO ml_L_13 33 dL_sites_30 rfl (cnt_9) (by decide) (by decide) ⟨Nat.zero_le _, Nat.zero_le _⟩ (Nat.le_of_ble_eq_true rfl) (fun M hO => ?_)
      refine G.icmp_ge X 341 36 dL_sites_33 (by decide) rfl (by omega) (by omega) (fun hc33 => by exfalso; omega) (fun hc33 => ?_)
      by_cases ho : openB r i = true
      · have hob := openB_iff.mp ho
        have eo : opI r i = 1 := if_pos ho
        refine G.aload_n X 37 dL_sites_36 rfl rfl ?_
        rcases hV.s4 hi with e4 | ⟨m, e4, hm⟩
        · have ex : owI r i = 0 := if_neg (by omega)
          have ew : wdI r i = 0 := if_neg (fun g => by
            have g2 := g.2
            rw [causeR_no e4] at g2
            omega)
          refine G.iload X 39 dL_sites_37 rfl rfl ?_
          have j8 := hJ.2.2.2.1 i hi
          by_cases h8 : fC r i 8 = 0
          · have h6 := j8.mp h8
            refine G.iconst X 40 dL_sites_39 rfl ?_
            refine GS.site X hO ml_L_23 43 dL_sites_40 rfl (sit_2 (i := i) (by omega)) (by omega) (by decide) (by decide) ⟨Nat.zero_le _, Nat.zero_le _⟩ (Nat.le_of_ble_eq_true rfl) ?_
            refine G.iload X 45 dL_sites_43 rfl rfl ?_
            refine G.icmp_gt X 64 48 dL_sites_45 (by decide) rfl (by omega) (by omega) (fun hc45 => by exfalso; omega) (fun hc45 => ?_)
            refine G.iload X 50 dL_sites_48 rfl rfl ?_
            refine G.aload_n X 51 dL_sites_50 rfl rfl ?_
            refine G.iload X 53 dL_sites_51 rfl rfl ?_
            refine G.iconst X 54 dL_sites_53 rfl ?_
            refine GS.site X hO ml_L_23 57 dL_sites_54 rfl (sit_3 (i := i) (by omega)) (by omega) (by decide) (by decide) ⟨Nat.zero_le _, Nat.zero_le _⟩ (Nat.le_of_ble_eq_true rfl) ?_
            refine G.icmp_ge X 64 60 dL_sites_57 (by decide) rfl (by omega) (by omega) (fun hc57 => by exfalso; omega) (fun hc57 => ?_)
            refine G.iconst X 61 dL_sites_60 rfl ?_
            refine G.goto X 65 dL_sites_61 (by decide) ?_
            refine G.istore (ls' := [_, _, _, _, _, _, _, _, _, _, _, _, _]) X 67 dL_sites_65 rfl (by decide) rfl ?_
            refine G.aload_n X 68 dL_sites_67 rfl rfl ?_
            refine G.iload X 70 dL_sites_68 rfl rfl ?_
            refine G.iconst X 71 dL_sites_70 rfl ?_
            refine GS.site X hO ml_L_23 74 dL_sites_71 rfl (sit_4z (i := i) (by omega) (by omega)) (by omega) (by decide) (by decide) ⟨Nat.zero_le _, Nat.zero_le _⟩ (Nat.le_of_ble_eq_true rfl) ?_
            refine G.istore (ls' := [_, _, _, _, _, _, _, _, _, _, _, _, _]) X 76 dL_sites_74 rfl (by decide) rfl ?_
            refine G.aload_n X 77 dL_sites_76 rfl rfl ?_
            refine G.iload X 79 dL_sites_77 rfl rfl ?_
            refine GS.why X hO ml_L_26 82 dL_sites_79 rfl ((why_o (i := i) (by omega) ho).trans (causeR_no e4)) (by omega) (by decide) ⟨Nat.zero_le _, Nat.zero_le _⟩ (Nat.le_of_ble_eq_true rfl) ?_
            refine G.istore (ls' := [_, _, _, _, _, _, _, _, _, _, _, _, _]) X 84 dL_sites_82 rfl (by decide) rfl ?_
            refine G.iload_n X 85 dL_sites_84 rfl rfl ?_
            refine G.iload X 87 dL_sites_85 rfl rfl ?_
            refine G.if_eq X 94 90 dL_sites_87 (by decide) rfl (by omega) (fun hc87 => by exact absurd hc87 (by decide)) (fun hc87 => ?_)
            refine G.iconst X 91 dL_sites_90 rfl ?_
            refine G.goto X 95 dL_sites_91 (by decide) ?_
            refine G.iadd X 96 dL_sites_95 rfl ?_
            refine G.istore_n (ls' := [_, _, _, _, _, _, _, _, _, _, _, _, _]) X 97 dL_sites_96 rfl (by decide) rfl ?_
            refine G.iload_n X 98 dL_sites_97 rfl rfl ?_
            refine G.aload_n X 99 dL_sites_98 rfl rfl ?_
            refine G.iload X 101 dL_sites_99 rfl rfl ?_
            refine G.iconst X 102 dL_sites_101 rfl ?_
            refine GS.site X hO ml_L_23 105 dL_sites_102 rfl (sit_5 (i := i) (by omega)) (by omega) (by decide) (by decide) ⟨Nat.zero_le _, Nat.zero_le _⟩ (Nat.le_of_ble_eq_true rfl) ?_
            refine G.iadd X 106 dL_sites_105 rfl ?_
            refine G.istore_n (ls' := [_, _, _, _, _, _, _, _, _, _, _, _, _]) X 107 dL_sites_106 rfl (by decide) rfl ?_
            refine G.iload_n X 108 dL_sites_107 rfl rfl ?_
            refine G.aload_n X 109 dL_sites_108 rfl rfl ?_
            refine G.iload X 111 dL_sites_109 rfl rfl ?_
            refine G.bipush X 113 dL_sites_111 rfl (by decide) ?_
            refine GS.site X hO ml_L_23 116 dL_sites_113 rfl (sit_6 (i := i) (by omega)) (by omega) (by decide) (by decide) ⟨Nat.zero_le _, Nat.zero_le _⟩ (Nat.le_of_ble_eq_true rfl) ?_
            refine G.iadd X 117 dL_sites_116 rfl ?_
            refine G.istore_n (ls' := [_, _, _, _, _, _, _, _, _, _, _, _, _]) X 118 dL_sites_117 rfl (by decide) rfl ?_
            refine G.iload X 120 dL_sites_118 rfl rfl ?_
            refine G.aload_n X 121 dL_sites_120 rfl rfl ?_
            refine G.iload X 123 dL_sites_121 rfl rfl ?_
            refine G.bipush X 125 dL_sites_123 rfl (by decide) ?_
            refine GS.site X hO ml_L_23 128 dL_sites_125 rfl (sit_7 (i := i) (by omega)) (by omega) (by decide) (by decide) ⟨Nat.zero_le _, Nat.zero_le _⟩ (Nat.le_of_ble_eq_true rfl) ?_
            refine G.iadd X 129 dL_sites_128 rfl ?_
            refine G.istore (ls' := [_, _, _, _, _, _, _, _, _, _, _, _, _]) X 131 dL_sites_129 rfl (by decide) rfl ?_
            refine G.iload X 133 dL_sites_131 rfl rfl ?_
            refine G.iload X 135 dL_sites_133 rfl rfl ?_
            refine G.if_lt X 142 138 dL_sites_135 (by decide) rfl (by omega) (fun hc135 => ?_) (fun hc135 => by exact absurd hc135 (by decide))
            refine G.iconst X 143 dL_sites_142 rfl ?_
            refine G.iadd X 144 dL_sites_143 rfl ?_
            refine G.istore (ls' := [_, _, _, _, _, _, _, _, _, _, _, _, _]) X 146 dL_sites_144 rfl (by decide) rfl ?_
            refine G.iload X 148 dL_sites_146 rfl rfl ?_
            refine G.iload X 150 dL_sites_148 rfl rfl ?_
            refine G.if_ne X 157 153 dL_sites_150 (by decide) rfl (by omega) (fun hc150 => ?_) (fun hc150 => by exact absurd hc150 (by decide))
            refine G.iconst X 158 dL_sites_157 rfl ?_
            refine G.iadd X 159 dL_sites_158 rfl ?_
            refine G.istore (ls' := [_, _, _, _, _, _, _, _, _, _, _, _, _]) X 161 dL_sites_159 rfl (by decide) rfl ?_
            refine G.aload_n X 162 dL_sites_161 rfl rfl ?_
            refine G.iload X 164 dL_sites_162 rfl rfl ?_
            refine G.bipush X 166 dL_sites_164 rfl (by decide) ?_
            refine GS.site X hO ml_L_23 169 dL_sites_166 rfl (sit_9t (i := i) (by omega) ho) (by omega) (by decide) (by decide) ⟨Nat.zero_le _, Nat.zero_le _⟩ (Nat.le_of_ble_eq_true rfl) ?_
            refine G.iload X 171 dL_sites_169 rfl rfl ?_
            refine G.if_eq X 178 174 dL_sites_171 (by decide) rfl (by omega) (fun hc171 => by exact absurd hc171 (by decide)) (fun hc171 => ?_)
            refine G.iconst X 175 dL_sites_174 rfl ?_
            refine G.goto X 179 dL_sites_175 (by decide) ?_
            refine G.icmp_ne X 265 182 dL_sites_179 (by decide) rfl (by omega) (by omega) (fun hc179 => by exact absurd hc179 (by decide)) (fun hc179 => ?_)
            refine G.iload X 184 dL_sites_182 rfl rfl ?_
            refine G.if_lt X 228 187 dL_sites_184 (by decide) rfl (by omega) (fun hc184 => ?_) (fun hc184 => by exact absurd hc184 (by decide))
            refine G.aload_n X 229 dL_sites_228 rfl rfl ?_
            refine G.iload X 231 dL_sites_229 rfl rfl ?_
            refine G.bipush X 233 dL_sites_231 rfl (by decide) ?_
            refine GS.site X hO ml_L_23 236 dL_sites_233 rfl (sit_8z (i := i) (by omega) h8) (by omega) (by decide) (by decide) ⟨Nat.zero_le _, Nat.zero_le _⟩ (Nat.le_of_ble_eq_true rfl) ?_
            refine G.bipush X 238 dL_sites_236 rfl (by decide) ?_
            refine G.icmp_ne X 245 241 dL_sites_238 (by decide) rfl (by omega) (by omega) (fun hc238 => by exact absurd hc238 (by decide)) (fun hc238 => ?_)
            refine G.iconst X 242 dL_sites_241 rfl ?_
            refine G.goto X 246 dL_sites_242 (by decide) ?_
            refine G.aload_n X 247 dL_sites_246 rfl rfl ?_
            refine G.iload X 249 dL_sites_247 rfl rfl ?_
            refine G.bipush X 251 dL_sites_249 rfl (by decide) ?_
            refine GS.site X hO ml_L_23 254 dL_sites_251 rfl (sit_6 (i := i) (by omega)) (by omega) (by decide) (by decide) ⟨Nat.zero_le _, Nat.zero_le _⟩ (Nat.le_of_ble_eq_true rfl) ?_
            refine G.if_ne X 261 257 dL_sites_254 (by decide) rfl (by omega) (fun hc254 => by exfalso; omega) (fun hc254 => ?_)
            refine G.iconst X 258 dL_sites_257 rfl ?_
            refine G.goto X 262 dL_sites_258 (by decide) ?_
            refine G.icmp_eq X 267 265 dL_sites_262 (by decide) rfl (by omega) (by omega) (fun hc262 => ?_) (fun hc262 => by exact absurd hc262 (by decide))
            refine G.iload X 269 dL_sites_267 rfl rfl ?_
            refine G.if_eq X 326 272 dL_sites_269 (by decide) rfl (by omega) (fun hc269 => by exact absurd hc269 (by decide)) (fun hc269 => ?_)
            refine G.iload X 274 dL_sites_272 rfl rfl ?_
            refine G.if_lt X 333 277 dL_sites_274 (by decide) rfl (by omega) (fun hc274 => by exact absurd hc274 (by decide)) (fun hc274 => ?_)
            refine G.iload X 279 dL_sites_277 rfl rfl ?_
            refine G.iconst X 280 dL_sites_279 rfl ?_
            refine G.icmp_ne X 287 283 dL_sites_280 (by decide) rfl (by omega) (by omega) (fun hc280 => by exact absurd hc280 (by decide)) (fun hc280 => ?_)
            refine G.iconst X 284 dL_sites_283 rfl ?_
            refine G.goto X 288 dL_sites_284 (by decide) ?_
            refine G.iload X 290 dL_sites_288 rfl rfl ?_
            refine G.if_ge X 297 293 dL_sites_290 (by decide) rfl (by omega) (fun hc290 => by exact absurd hc290 (by decide)) (fun hc290 => ?_)
            refine G.iconst X 294 dL_sites_293 rfl ?_
            refine G.goto X 298 dL_sites_294 (by decide) ?_
            refine G.icmp_ne X 333 301 dL_sites_298 (by decide) rfl (by omega) (by omega) (fun hc298 => by exact absurd hc298 (by decide)) (fun hc298 => ?_)
            refine G.iload X 303 dL_sites_301 rfl rfl ?_
            refine G.if_lt X 335 306 dL_sites_303 (by decide) rfl (by omega) (fun hc303 => ?_) (fun hc303 => by exact absurd hc303 (by decide))
            refine G.iinc (ls' := [_, _, _, _, _, _, _, _, _, _, _, _, _]) X 338 dL_sites_335 rfl rfl (by decide) rfl ?_
            refine G.goto X 25 dL_sites_338 (by decide) ?_
            refine G.drop 9 ?_
            refine G.drop 10 ?_
            refine G.drop 11 ?_
            exact ih (i + 1) _ _ _ _ _ _ M (by omega) (by simp only [sumN_s]; omega) (by simp only [sumN_s]; omega) (by simp only [sumN_s]; omega) (by simp only [sumN_s]; omega) (by simp only [sumN_s]; omega) (by simp only [sumN_s]; omega) hO
          · have h6 : ¬ fC r i 6 = 0 := fun g => h8 (j8.mpr g)
            refine G.iconst X 40 dL_sites_39 rfl ?_
            refine GS.site X hO ml_L_23 43 dL_sites_40 rfl (sit_2 (i := i) (by omega)) (by omega) (by decide) (by decide) ⟨Nat.zero_le _, Nat.zero_le _⟩ (Nat.le_of_ble_eq_true rfl) ?_
            refine G.iload X 45 dL_sites_43 rfl rfl ?_
            refine G.icmp_gt X 64 48 dL_sites_45 (by decide) rfl (by omega) (by omega) (fun hc45 => by exfalso; omega) (fun hc45 => ?_)
            refine G.iload X 50 dL_sites_48 rfl rfl ?_
            refine G.aload_n X 51 dL_sites_50 rfl rfl ?_
            refine G.iload X 53 dL_sites_51 rfl rfl ?_
            refine G.iconst X 54 dL_sites_53 rfl ?_
            refine GS.site X hO ml_L_23 57 dL_sites_54 rfl (sit_3 (i := i) (by omega)) (by omega) (by decide) (by decide) ⟨Nat.zero_le _, Nat.zero_le _⟩ (Nat.le_of_ble_eq_true rfl) ?_
            refine G.icmp_ge X 64 60 dL_sites_57 (by decide) rfl (by omega) (by omega) (fun hc57 => by exfalso; omega) (fun hc57 => ?_)
            refine G.iconst X 61 dL_sites_60 rfl ?_
            refine G.goto X 65 dL_sites_61 (by decide) ?_
            refine G.istore (ls' := [_, _, _, _, _, _, _, _, _, _, _, _, _]) X 67 dL_sites_65 rfl (by decide) rfl ?_
            refine G.aload_n X 68 dL_sites_67 rfl rfl ?_
            refine G.iload X 70 dL_sites_68 rfl rfl ?_
            refine G.iconst X 71 dL_sites_70 rfl ?_
            refine GS.site X hO ml_L_23 74 dL_sites_71 rfl (sit_4z (i := i) (by omega) (by omega)) (by omega) (by decide) (by decide) ⟨Nat.zero_le _, Nat.zero_le _⟩ (Nat.le_of_ble_eq_true rfl) ?_
            refine G.istore (ls' := [_, _, _, _, _, _, _, _, _, _, _, _, _]) X 76 dL_sites_74 rfl (by decide) rfl ?_
            refine G.aload_n X 77 dL_sites_76 rfl rfl ?_
            refine G.iload X 79 dL_sites_77 rfl rfl ?_
            refine GS.why X hO ml_L_26 82 dL_sites_79 rfl ((why_o (i := i) (by omega) ho).trans (causeR_no e4)) (by omega) (by decide) ⟨Nat.zero_le _, Nat.zero_le _⟩ (Nat.le_of_ble_eq_true rfl) ?_
            refine G.istore (ls' := [_, _, _, _, _, _, _, _, _, _, _, _, _]) X 84 dL_sites_82 rfl (by decide) rfl ?_
            refine G.iload_n X 85 dL_sites_84 rfl rfl ?_
            refine G.iload X 87 dL_sites_85 rfl rfl ?_
            refine G.if_eq X 94 90 dL_sites_87 (by decide) rfl (by omega) (fun hc87 => by exact absurd hc87 (by decide)) (fun hc87 => ?_)
            refine G.iconst X 91 dL_sites_90 rfl ?_
            refine G.goto X 95 dL_sites_91 (by decide) ?_
            refine G.iadd X 96 dL_sites_95 rfl ?_
            refine G.istore_n (ls' := [_, _, _, _, _, _, _, _, _, _, _, _, _]) X 97 dL_sites_96 rfl (by decide) rfl ?_
            refine G.iload_n X 98 dL_sites_97 rfl rfl ?_
            refine G.aload_n X 99 dL_sites_98 rfl rfl ?_
            refine G.iload X 101 dL_sites_99 rfl rfl ?_
            refine G.iconst X 102 dL_sites_101 rfl ?_
            refine GS.site X hO ml_L_23 105 dL_sites_102 rfl (sit_5 (i := i) (by omega)) (by omega) (by decide) (by decide) ⟨Nat.zero_le _, Nat.zero_le _⟩ (Nat.le_of_ble_eq_true rfl) ?_
            refine G.iadd X 106 dL_sites_105 rfl ?_
            refine G.istore_n (ls' := [_, _, _, _, _, _, _, _, _, _, _, _, _]) X 107 dL_sites_106 rfl (by decide) rfl ?_
            refine G.iload_n X 108 dL_sites_107 rfl rfl ?_
            refine G.aload_n X 109 dL_sites_108 rfl rfl ?_
            refine G.iload X 111 dL_sites_109 rfl rfl ?_
            refine G.bipush X 113 dL_sites_111 rfl (by decide) ?_
            refine GS.site X hO ml_L_23 116 dL_sites_113 rfl (sit_6 (i := i) (by omega)) (by omega) (by decide) (by decide) ⟨Nat.zero_le _, Nat.zero_le _⟩ (Nat.le_of_ble_eq_true rfl) ?_
            refine G.iadd X 117 dL_sites_116 rfl ?_
            refine G.istore_n (ls' := [_, _, _, _, _, _, _, _, _, _, _, _, _]) X 118 dL_sites_117 rfl (by decide) rfl ?_
            refine G.iload X 120 dL_sites_118 rfl rfl ?_
            refine G.aload_n X 121 dL_sites_120 rfl rfl ?_
            refine G.iload X 123 dL_sites_121 rfl rfl ?_
            refine G.bipush X 125 dL_sites_123 rfl (by decide) ?_
            refine GS.site X hO ml_L_23 128 dL_sites_125 rfl (sit_7 (i := i) (by omega)) (by omega) (by decide) (by decide) ⟨Nat.zero_le _, Nat.zero_le _⟩ (Nat.le_of_ble_eq_true rfl) ?_
            refine G.iadd X 129 dL_sites_128 rfl ?_
            refine G.istore (ls' := [_, _, _, _, _, _, _, _, _, _, _, _, _]) X 131 dL_sites_129 rfl (by decide) rfl ?_
            refine G.iload X 133 dL_sites_131 rfl rfl ?_
            refine G.iload X 135 dL_sites_133 rfl rfl ?_
            refine G.if_lt X 142 138 dL_sites_135 (by decide) rfl (by omega) (fun hc135 => ?_) (fun hc135 => by exact absurd hc135 (by decide))
            refine G.iconst X 143 dL_sites_142 rfl ?_
            refine G.iadd X 144 dL_sites_143 rfl ?_
            refine G.istore (ls' := [_, _, _, _, _, _, _, _, _, _, _, _, _]) X 146 dL_sites_144 rfl (by decide) rfl ?_
            refine G.iload X 148 dL_sites_146 rfl rfl ?_
            refine G.iload X 150 dL_sites_148 rfl rfl ?_
            refine G.if_ne X 157 153 dL_sites_150 (by decide) rfl (by omega) (fun hc150 => ?_) (fun hc150 => by exact absurd hc150 (by decide))
            refine G.iconst X 158 dL_sites_157 rfl ?_
            refine G.iadd X 159 dL_sites_158 rfl ?_
            refine G.istore (ls' := [_, _, _, _, _, _, _, _, _, _, _, _, _]) X 161 dL_sites_159 rfl (by decide) rfl ?_
            refine G.aload_n X 162 dL_sites_161 rfl rfl ?_
            refine G.iload X 164 dL_sites_162 rfl rfl ?_
            refine G.bipush X 166 dL_sites_164 rfl (by decide) ?_
            refine GS.site X hO ml_L_23 169 dL_sites_166 rfl (sit_9t (i := i) (by omega) ho) (by omega) (by decide) (by decide) ⟨Nat.zero_le _, Nat.zero_le _⟩ (Nat.le_of_ble_eq_true rfl) ?_
            refine G.iload X 171 dL_sites_169 rfl rfl ?_
            refine G.if_eq X 178 174 dL_sites_171 (by decide) rfl (by omega) (fun hc171 => by exact absurd hc171 (by decide)) (fun hc171 => ?_)
            refine G.iconst X 175 dL_sites_174 rfl ?_
            refine G.goto X 179 dL_sites_175 (by decide) ?_
            refine G.icmp_ne X 265 182 dL_sites_179 (by decide) rfl (by omega) (by omega) (fun hc179 => by exact absurd hc179 (by decide)) (fun hc179 => ?_)
            refine G.iload X 184 dL_sites_182 rfl rfl ?_
            refine G.if_lt X 228 187 dL_sites_184 (by decide) rfl (by omega) (fun hc184 => ?_) (fun hc184 => by exact absurd hc184 (by decide))
            refine G.aload_n X 229 dL_sites_228 rfl rfl ?_
            refine G.iload X 231 dL_sites_229 rfl rfl ?_
            refine G.bipush X 233 dL_sites_231 rfl (by decide) ?_
            refine GS.site X hO ml_L_23 236 dL_sites_233 rfl (sit_8p (i := i) (by omega) h8) (by omega) (by decide) (by decide) ⟨Nat.zero_le _, Nat.zero_le _⟩ (Nat.le_of_ble_eq_true rfl) ?_
            refine G.bipush X 238 dL_sites_236 rfl (by decide) ?_
            refine G.icmp_ne X 245 241 dL_sites_238 (by decide) rfl (by omega) (by omega) (fun hc238 => ?_) (fun hc238 => by exfalso; omega)
            refine G.iconst X 246 dL_sites_245 rfl ?_
            refine G.aload_n X 247 dL_sites_246 rfl rfl ?_
            refine G.iload X 249 dL_sites_247 rfl rfl ?_
            refine G.bipush X 251 dL_sites_249 rfl (by decide) ?_
            refine GS.site X hO ml_L_23 254 dL_sites_251 rfl (sit_6 (i := i) (by omega)) (by omega) (by decide) (by decide) ⟨Nat.zero_le _, Nat.zero_le _⟩ (Nat.le_of_ble_eq_true rfl) ?_
            refine G.if_ne X 261 257 dL_sites_254 (by decide) rfl (by omega) (fun hc254 => ?_) (fun hc254 => by exfalso; omega)
            refine G.iconst X 262 dL_sites_261 rfl ?_
            refine G.icmp_eq X 267 265 dL_sites_262 (by decide) rfl (by omega) (by omega) (fun hc262 => ?_) (fun hc262 => by exact absurd hc262 (by decide))
            refine G.iload X 269 dL_sites_267 rfl rfl ?_
            refine G.if_eq X 326 272 dL_sites_269 (by decide) rfl (by omega) (fun hc269 => by exact absurd hc269 (by decide)) (fun hc269 => ?_)
            refine G.iload X 274 dL_sites_272 rfl rfl ?_
            refine G.if_lt X 333 277 dL_sites_274 (by decide) rfl (by omega) (fun hc274 => by exact absurd hc274 (by decide)) (fun hc274 => ?_)
            refine G.iload X 279 dL_sites_277 rfl rfl ?_
            refine G.iconst X 280 dL_sites_279 rfl ?_
            refine G.icmp_ne X 287 283 dL_sites_280 (by decide) rfl (by omega) (by omega) (fun hc280 => by exact absurd hc280 (by decide)) (fun hc280 => ?_)
            refine G.iconst X 284 dL_sites_283 rfl ?_
            refine G.goto X 288 dL_sites_284 (by decide) ?_
            refine G.iload X 290 dL_sites_288 rfl rfl ?_
            refine G.if_ge X 297 293 dL_sites_290 (by decide) rfl (by omega) (fun hc290 => by exact absurd hc290 (by decide)) (fun hc290 => ?_)
            refine G.iconst X 294 dL_sites_293 rfl ?_
            refine G.goto X 298 dL_sites_294 (by decide) ?_
            refine G.icmp_ne X 333 301 dL_sites_298 (by decide) rfl (by omega) (by omega) (fun hc298 => by exact absurd hc298 (by decide)) (fun hc298 => ?_)
            refine G.iload X 303 dL_sites_301 rfl rfl ?_
            refine G.if_lt X 335 306 dL_sites_303 (by decide) rfl (by omega) (fun hc303 => ?_) (fun hc303 => by exact absurd hc303 (by decide))
            refine G.iinc (ls' := [_, _, _, _, _, _, _, _, _, _, _, _, _]) X 338 dL_sites_335 rfl rfl (by decide) rfl ?_
            refine G.goto X 25 dL_sites_338 (by decide) ?_
            refine G.drop 9 ?_
            refine G.drop 10 ?_
            refine G.drop 11 ?_
            exact ih (i + 1) _ _ _ _ _ _ M (by omega) (by simp only [sumN_s]; omega) (by simp only [sumN_s]; omega) (by simp only [sumN_s]; omega) (by simp only [sumN_s]; omega) (by simp only [sumN_s]; omega) (by simp only [sumN_s]; omega) hO
        · have g5 := (hJ.2.2.1 m i hi e4).1
          have g1 := (hJ.2.2.1 m i hi e4).2.1
          have g3 : r 0 < fC r i 3 := (hJ.2.2.1 m i hi e4).2.2
          have ex : owI r i = 1 := if_pos (by omega)
          have vm := hV.2.1 m hm
          unfold Vset at vm
          refine G.iload X 39 dL_sites_37 rfl rfl ?_
          have j8 := hJ.2.2.2.1 i hi
          by_cases h8 : fC r i 8 = 0
          · have h6 := j8.mp h8
            refine G.iconst X 40 dL_sites_39 rfl ?_
            have hcr : causeR r i = 0 ∨ 2 ≤ causeR r i ∧ causeR r i ≤ 3 := by
              rcases causeR_has (r := r) (s := i) (by omega) with c | c | c <;> omega
            rcases hcr with hc | hc
            · have ew : wdI r i = 1 := if_pos ⟨ho, hc⟩
              refine GS.site X hO ml_L_23 43 dL_sites_40 rfl (sit_2 (i := i) (by omega)) (by omega) (by decide) (by decide) ⟨Nat.zero_le _, Nat.zero_le _⟩ (Nat.le_of_ble_eq_true rfl) ?_
              refine G.iload X 45 dL_sites_43 rfl rfl ?_
              refine G.icmp_gt X 64 48 dL_sites_45 (by decide) rfl (by omega) (by omega) (fun hc45 => by exfalso; omega) (fun hc45 => ?_)
              refine G.iload X 50 dL_sites_48 rfl rfl ?_
              refine G.aload_n X 51 dL_sites_50 rfl rfl ?_
              refine G.iload X 53 dL_sites_51 rfl rfl ?_
              refine G.iconst X 54 dL_sites_53 rfl ?_
              refine GS.site X hO ml_L_23 57 dL_sites_54 rfl (sit_3 (i := i) (by omega)) (by omega) (by decide) (by decide) ⟨Nat.zero_le _, Nat.zero_le _⟩ (Nat.le_of_ble_eq_true rfl) ?_
              refine G.icmp_ge X 64 60 dL_sites_57 (by decide) rfl (by omega) (by omega) (fun hc57 => by exfalso; omega) (fun hc57 => ?_)
              refine G.iconst X 61 dL_sites_60 rfl ?_
              refine G.goto X 65 dL_sites_61 (by decide) ?_
              refine G.istore (ls' := [_, _, _, _, _, _, _, _, _, _, _, _, _]) X 67 dL_sites_65 rfl (by decide) rfl ?_
              refine G.aload_n X 68 dL_sites_67 rfl rfl ?_
              refine G.iload X 70 dL_sites_68 rfl rfl ?_
              refine G.iconst X 71 dL_sites_70 rfl ?_
              refine GS.site X hO ml_L_23 74 dL_sites_71 rfl (sit_4p (i := i) (j := m) (by omega) (by omega)) (by omega) (by decide) (by decide) ⟨Nat.zero_le _, Nat.zero_le _⟩ (Nat.le_of_ble_eq_true rfl) ?_
              refine G.istore (ls' := [_, _, _, _, _, _, _, _, _, _, _, _, _]) X 76 dL_sites_74 rfl (by decide) rfl ?_
              refine G.aload_n X 77 dL_sites_76 rfl rfl ?_
              refine G.iload X 79 dL_sites_77 rfl rfl ?_
              refine GS.why X hO ml_L_26 82 dL_sites_79 rfl ((why_o (i := i) (by omega) ho).trans hc) (by omega) (by decide) ⟨Nat.zero_le _, Nat.zero_le _⟩ (Nat.le_of_ble_eq_true rfl) ?_
              refine G.istore (ls' := [_, _, _, _, _, _, _, _, _, _, _, _, _]) X 84 dL_sites_82 rfl (by decide) rfl ?_
              refine G.iload_n X 85 dL_sites_84 rfl rfl ?_
              refine G.iload X 87 dL_sites_85 rfl rfl ?_
              refine G.if_eq X 94 90 dL_sites_87 (by decide) rfl (by omega) (fun hc87 => by exact absurd hc87 (by decide)) (fun hc87 => ?_)
              refine G.iconst X 91 dL_sites_90 rfl ?_
              refine G.goto X 95 dL_sites_91 (by decide) ?_
              refine G.iadd X 96 dL_sites_95 rfl ?_
              refine G.istore_n (ls' := [_, _, _, _, _, _, _, _, _, _, _, _, _]) X 97 dL_sites_96 rfl (by decide) rfl ?_
              refine G.iload_n X 98 dL_sites_97 rfl rfl ?_
              refine G.aload_n X 99 dL_sites_98 rfl rfl ?_
              refine G.iload X 101 dL_sites_99 rfl rfl ?_
              refine G.iconst X 102 dL_sites_101 rfl ?_
              refine GS.site X hO ml_L_23 105 dL_sites_102 rfl (sit_5 (i := i) (by omega)) (by omega) (by decide) (by decide) ⟨Nat.zero_le _, Nat.zero_le _⟩ (Nat.le_of_ble_eq_true rfl) ?_
              refine G.iadd X 106 dL_sites_105 rfl ?_
              refine G.istore_n (ls' := [_, _, _, _, _, _, _, _, _, _, _, _, _]) X 107 dL_sites_106 rfl (by decide) rfl ?_
              refine G.iload_n X 108 dL_sites_107 rfl rfl ?_
              refine G.aload_n X 109 dL_sites_108 rfl rfl ?_
              refine G.iload X 111 dL_sites_109 rfl rfl ?_
              refine G.bipush X 113 dL_sites_111 rfl (by decide) ?_
              refine GS.site X hO ml_L_23 116 dL_sites_113 rfl (sit_6 (i := i) (by omega)) (by omega) (by decide) (by decide) ⟨Nat.zero_le _, Nat.zero_le _⟩ (Nat.le_of_ble_eq_true rfl) ?_
              refine G.iadd X 117 dL_sites_116 rfl ?_
              refine G.istore_n (ls' := [_, _, _, _, _, _, _, _, _, _, _, _, _]) X 118 dL_sites_117 rfl (by decide) rfl ?_
              refine G.iload X 120 dL_sites_118 rfl rfl ?_
              refine G.aload_n X 121 dL_sites_120 rfl rfl ?_
              refine G.iload X 123 dL_sites_121 rfl rfl ?_
              refine G.bipush X 125 dL_sites_123 rfl (by decide) ?_
              refine GS.site X hO ml_L_23 128 dL_sites_125 rfl (sit_7 (i := i) (by omega)) (by omega) (by decide) (by decide) ⟨Nat.zero_le _, Nat.zero_le _⟩ (Nat.le_of_ble_eq_true rfl) ?_
              refine G.iadd X 129 dL_sites_128 rfl ?_
              refine G.istore (ls' := [_, _, _, _, _, _, _, _, _, _, _, _, _]) X 131 dL_sites_129 rfl (by decide) rfl ?_
              refine G.iload X 133 dL_sites_131 rfl rfl ?_
              refine G.iload X 135 dL_sites_133 rfl rfl ?_
              refine G.if_lt X 142 138 dL_sites_135 (by decide) rfl (by omega) (fun hc135 => by omega) (fun hc135 => ?_)
              refine G.iconst X 139 dL_sites_138 rfl ?_
              refine G.goto X 143 dL_sites_139 (by decide) ?_
              refine G.iadd X 144 dL_sites_143 rfl ?_
              refine G.istore (ls' := [_, _, _, _, _, _, _, _, _, _, _, _, _]) X 146 dL_sites_144 rfl (by decide) rfl ?_
              refine G.iload X 148 dL_sites_146 rfl rfl ?_
              refine G.iload X 150 dL_sites_148 rfl rfl ?_
              refine G.if_ne X 157 153 dL_sites_150 (by decide) rfl (by omega) (fun hc150 => by exact absurd hc150 (by decide)) (fun hc150 => ?_)
              refine G.iconst X 154 dL_sites_153 rfl ?_
              refine G.goto X 158 dL_sites_154 (by decide) ?_
              refine G.iadd X 159 dL_sites_158 rfl ?_
              refine G.istore (ls' := [_, _, _, _, _, _, _, _, _, _, _, _, _]) X 161 dL_sites_159 rfl (by decide) rfl ?_
              refine G.aload_n X 162 dL_sites_161 rfl rfl ?_
              refine G.iload X 164 dL_sites_162 rfl rfl ?_
              refine G.bipush X 166 dL_sites_164 rfl (by decide) ?_
              refine GS.site X hO ml_L_23 169 dL_sites_166 rfl (sit_9t (i := i) (by omega) ho) (by omega) (by decide) (by decide) ⟨Nat.zero_le _, Nat.zero_le _⟩ (Nat.le_of_ble_eq_true rfl) ?_
              refine G.iload X 171 dL_sites_169 rfl rfl ?_
              refine G.if_eq X 178 174 dL_sites_171 (by decide) rfl (by omega) (fun hc171 => by exact absurd hc171 (by decide)) (fun hc171 => ?_)
              refine G.iconst X 175 dL_sites_174 rfl ?_
              refine G.goto X 179 dL_sites_175 (by decide) ?_
              refine G.icmp_ne X 265 182 dL_sites_179 (by decide) rfl (by omega) (by omega) (fun hc179 => by exact absurd hc179 (by decide)) (fun hc179 => ?_)
              refine G.iload X 184 dL_sites_182 rfl rfl ?_
              refine G.if_lt X 228 187 dL_sites_184 (by decide) rfl (by omega) (fun hc184 => by omega) (fun hc184 => ?_)
              refine G.aload_n X 188 dL_sites_187 rfl rfl ?_
              refine G.iload X 190 dL_sites_188 rfl rfl ?_
              refine G.iconst X 191 dL_sites_190 rfl ?_
              refine GS.set X hO ml_L_19 194 dL_sites_191 rfl (set_5p (i := m) (j := i) (by omega) (by omega)) (by omega) (by decide) (by decide) ⟨Nat.zero_le _, Nat.zero_le _⟩ (Nat.le_of_ble_eq_true rfl) ?_
              refine G.iload X 196 dL_sites_194 rfl rfl ?_
              refine G.icmp_ne X 265 199 dL_sites_196 (by decide) rfl (by omega) (by omega) (fun hc196 => by exfalso; omega) (fun hc196 => ?_)
              refine G.aload_n X 200 dL_sites_199 rfl rfl ?_
              refine G.iload X 202 dL_sites_200 rfl rfl ?_
              refine G.iconst X 203 dL_sites_202 rfl ?_
              refine GS.set X hO ml_L_19 206 dL_sites_203 rfl (set_0 (i := m) (by omega)) (by omega) (by decide) (by decide) ⟨Nat.zero_le _, Nat.zero_le _⟩ (Nat.le_of_ble_eq_true rfl) ?_
              refine G.aload_n X 207 dL_sites_206 rfl rfl ?_
              refine G.iload X 209 dL_sites_207 rfl rfl ?_
              refine G.iconst X 210 dL_sites_209 rfl ?_
              refine GS.site X hO ml_L_23 213 dL_sites_210 rfl (sit_1 (i := i) (by omega)) (by omega) (by decide) (by decide) ⟨Nat.zero_le _, Nat.zero_le _⟩ (Nat.le_of_ble_eq_true rfl) ?_
              refine G.icmp_lt X 265 216 dL_sites_213 (by decide) rfl (by omega) (by omega) (fun hc213 => by exfalso; omega) (fun hc213 => ?_)
              refine G.iload X 218 dL_sites_216 rfl rfl ?_
              refine G.aload_n X 219 dL_sites_218 rfl rfl ?_
              refine G.iload X 221 dL_sites_219 rfl rfl ?_
              refine G.iconst X 222 dL_sites_221 rfl ?_
              refine GS.site X hO ml_L_23 225 dL_sites_222 rfl (sit_3 (i := i) (by omega)) (by omega) (by decide) (by decide) ⟨Nat.zero_le _, Nat.zero_le _⟩ (Nat.le_of_ble_eq_true rfl) ?_
              refine G.icmp_ge X 265 228 dL_sites_225 (by decide) rfl (by omega) (by omega) (fun hc225 => by exfalso; omega) (fun hc225 => ?_)
              refine G.aload_n X 229 dL_sites_228 rfl rfl ?_
              refine G.iload X 231 dL_sites_229 rfl rfl ?_
              refine G.bipush X 233 dL_sites_231 rfl (by decide) ?_
              refine GS.site X hO ml_L_23 236 dL_sites_233 rfl (sit_8z (i := i) (by omega) h8) (by omega) (by decide) (by decide) ⟨Nat.zero_le _, Nat.zero_le _⟩ (Nat.le_of_ble_eq_true rfl) ?_
              refine G.bipush X 238 dL_sites_236 rfl (by decide) ?_
              refine G.icmp_ne X 245 241 dL_sites_238 (by decide) rfl (by omega) (by omega) (fun hc238 => by exact absurd hc238 (by decide)) (fun hc238 => ?_)
              refine G.iconst X 242 dL_sites_241 rfl ?_
              refine G.goto X 246 dL_sites_242 (by decide) ?_
              refine G.aload_n X 247 dL_sites_246 rfl rfl ?_
              refine G.iload X 249 dL_sites_247 rfl rfl ?_
              refine G.bipush X 251 dL_sites_249 rfl (by decide) ?_
              refine GS.site X hO ml_L_23 254 dL_sites_251 rfl (sit_6 (i := i) (by omega)) (by omega) (by decide) (by decide) ⟨Nat.zero_le _, Nat.zero_le _⟩ (Nat.le_of_ble_eq_true rfl) ?_
              refine G.if_ne X 261 257 dL_sites_254 (by decide) rfl (by omega) (fun hc254 => by exfalso; omega) (fun hc254 => ?_)
              refine G.iconst X 258 dL_sites_257 rfl ?_
              refine G.goto X 262 dL_sites_258 (by decide) ?_
              refine G.icmp_eq X 267 265 dL_sites_262 (by decide) rfl (by omega) (by omega) (fun hc262 => ?_) (fun hc262 => by exact absurd hc262 (by decide))
              refine G.iload X 269 dL_sites_267 rfl rfl ?_
              refine G.if_eq X 326 272 dL_sites_269 (by decide) rfl (by omega) (fun hc269 => by exact absurd hc269 (by decide)) (fun hc269 => ?_)
              refine G.iload X 274 dL_sites_272 rfl rfl ?_
              refine G.if_lt X 333 277 dL_sites_274 (by decide) rfl (by omega) (fun hc274 => by exact absurd hc274 (by decide)) (fun hc274 => ?_)
              refine G.iload X 279 dL_sites_277 rfl rfl ?_
              refine G.iconst X 280 dL_sites_279 rfl ?_
              refine G.icmp_ne X 287 283 dL_sites_280 (by decide) rfl (by omega) (by omega) (fun hc280 => ?_) (fun hc280 => by exact absurd hc280 (by decide))
              refine G.iconst X 288 dL_sites_287 rfl ?_
              refine G.iload X 290 dL_sites_288 rfl rfl ?_
              refine G.if_ge X 297 293 dL_sites_290 (by decide) rfl (by omega) (fun hc290 => ?_) (fun hc290 => by omega)
              refine G.iconst X 298 dL_sites_297 rfl ?_
              refine G.icmp_ne X 333 301 dL_sites_298 (by decide) rfl (by omega) (by omega) (fun hc298 => by exact absurd hc298 (by decide)) (fun hc298 => ?_)
              refine G.iload X 303 dL_sites_301 rfl rfl ?_
              refine G.if_lt X 335 306 dL_sites_303 (by decide) rfl (by omega) (fun hc303 => by omega) (fun hc303 => ?_)
              refine G.aload_n X 307 dL_sites_306 rfl rfl ?_
              refine G.iload X 309 dL_sites_307 rfl rfl ?_
              refine G.bipush X 311 dL_sites_309 rfl (by decide) ?_
              refine GS.set X hO ml_L_19 314 dL_sites_311 rfl (set_6 (i := m) (by omega)) (by omega) (by decide) (by decide) ⟨Nat.zero_le _, Nat.zero_le _⟩ (Nat.le_of_ble_eq_true rfl) ?_
              refine G.iconst X 315 dL_sites_314 rfl ?_
              refine G.icmp_ne X 335 318 dL_sites_315 (by decide) rfl (by omega) (by omega) (fun hc315 => ?_) (fun hc315 => ?_)
              · refine G.iinc (ls' := [_, _, _, _, _, _, _, _, _, _, _, _, _]) X 338 dL_sites_335 rfl rfl (by decide) rfl ?_
                refine G.goto X 25 dL_sites_338 (by decide) ?_
                refine G.drop 9 ?_
                refine G.drop 10 ?_
                refine G.drop 11 ?_
                exact ih (i + 1) _ _ _ _ _ _ M (by omega) (by simp only [sumN_s]; omega) (by simp only [sumN_s]; omega) (by simp only [sumN_s]; omega) (by simp only [sumN_s]; omega) (by simp only [sumN_s]; omega) (by simp only [sumN_s]; omega) hO
              · refine G.iload X 320 dL_sites_318 rfl rfl ?_
                refine G.if_eq X 335 323 dL_sites_320 (by decide) rfl (by omega) (fun hc320 => ?_) (fun hc320 => by exact absurd hc320 (by decide))
                refine G.iinc (ls' := [_, _, _, _, _, _, _, _, _, _, _, _, _]) X 338 dL_sites_335 rfl rfl (by decide) rfl ?_
                refine G.goto X 25 dL_sites_338 (by decide) ?_
                refine G.drop 9 ?_
                refine G.drop 10 ?_
                refine G.drop 11 ?_
                exact ih (i + 1) _ _ _ _ _ _ M (by omega) (by simp only [sumN_s]; omega) (by simp only [sumN_s]; omega) (by simp only [sumN_s]; omega) (by simp only [sumN_s]; omega) (by simp only [sumN_s]; omega) (by simp only [sumN_s]; omega) hO
            · have ew : wdI r i = 0 := if_neg (fun g => by
                have g2 := g.2
                omega)
              have hrun : ¬ fS r m 6 = 1 := fun g => by
                have hc0 : causeR r i = 0 := by
                  unfold causeR
                  rw [if_neg (by omega), hasN_is e4]
                  unfold caF
                  exact if_pos g
                omega
              refine GS.site X hO ml_L_23 43 dL_sites_40 rfl (sit_2 (i := i) (by omega)) (by omega) (by decide) (by decide) ⟨Nat.zero_le _, Nat.zero_le _⟩ (Nat.le_of_ble_eq_true rfl) ?_
              refine G.iload X 45 dL_sites_43 rfl rfl ?_
              refine G.icmp_gt X 64 48 dL_sites_45 (by decide) rfl (by omega) (by omega) (fun hc45 => by exfalso; omega) (fun hc45 => ?_)
              refine G.iload X 50 dL_sites_48 rfl rfl ?_
              refine G.aload_n X 51 dL_sites_50 rfl rfl ?_
              refine G.iload X 53 dL_sites_51 rfl rfl ?_
              refine G.iconst X 54 dL_sites_53 rfl ?_
              refine GS.site X hO ml_L_23 57 dL_sites_54 rfl (sit_3 (i := i) (by omega)) (by omega) (by decide) (by decide) ⟨Nat.zero_le _, Nat.zero_le _⟩ (Nat.le_of_ble_eq_true rfl) ?_
              refine G.icmp_ge X 64 60 dL_sites_57 (by decide) rfl (by omega) (by omega) (fun hc57 => by exfalso; omega) (fun hc57 => ?_)
              refine G.iconst X 61 dL_sites_60 rfl ?_
              refine G.goto X 65 dL_sites_61 (by decide) ?_
              refine G.istore (ls' := [_, _, _, _, _, _, _, _, _, _, _, _, _]) X 67 dL_sites_65 rfl (by decide) rfl ?_
              refine G.aload_n X 68 dL_sites_67 rfl rfl ?_
              refine G.iload X 70 dL_sites_68 rfl rfl ?_
              refine G.iconst X 71 dL_sites_70 rfl ?_
              refine GS.site X hO ml_L_23 74 dL_sites_71 rfl (sit_4p (i := i) (j := m) (by omega) (by omega)) (by omega) (by decide) (by decide) ⟨Nat.zero_le _, Nat.zero_le _⟩ (Nat.le_of_ble_eq_true rfl) ?_
              refine G.istore (ls' := [_, _, _, _, _, _, _, _, _, _, _, _, _]) X 76 dL_sites_74 rfl (by decide) rfl ?_
              refine G.aload_n X 77 dL_sites_76 rfl rfl ?_
              refine G.iload X 79 dL_sites_77 rfl rfl ?_
              refine GS.why X hO ml_L_26 82 dL_sites_79 rfl (why_o (i := i) (by omega) ho) (by omega) (by decide) ⟨Nat.zero_le _, Nat.zero_le _⟩ (Nat.le_of_ble_eq_true rfl) ?_
              refine G.istore (ls' := [_, _, _, _, _, _, _, _, _, _, _, _, _]) X 84 dL_sites_82 rfl (by decide) rfl ?_
              refine G.iload_n X 85 dL_sites_84 rfl rfl ?_
              refine G.iload X 87 dL_sites_85 rfl rfl ?_
              refine G.if_eq X 94 90 dL_sites_87 (by decide) rfl (by omega) (fun hc87 => by exact absurd hc87 (by decide)) (fun hc87 => ?_)
              refine G.iconst X 91 dL_sites_90 rfl ?_
              refine G.goto X 95 dL_sites_91 (by decide) ?_
              refine G.iadd X 96 dL_sites_95 rfl ?_
              refine G.istore_n (ls' := [_, _, _, _, _, _, _, _, _, _, _, _, _]) X 97 dL_sites_96 rfl (by decide) rfl ?_
              refine G.iload_n X 98 dL_sites_97 rfl rfl ?_
              refine G.aload_n X 99 dL_sites_98 rfl rfl ?_
              refine G.iload X 101 dL_sites_99 rfl rfl ?_
              refine G.iconst X 102 dL_sites_101 rfl ?_
              refine GS.site X hO ml_L_23 105 dL_sites_102 rfl (sit_5 (i := i) (by omega)) (by omega) (by decide) (by decide) ⟨Nat.zero_le _, Nat.zero_le _⟩ (Nat.le_of_ble_eq_true rfl) ?_
              refine G.iadd X 106 dL_sites_105 rfl ?_
              refine G.istore_n (ls' := [_, _, _, _, _, _, _, _, _, _, _, _, _]) X 107 dL_sites_106 rfl (by decide) rfl ?_
              refine G.iload_n X 108 dL_sites_107 rfl rfl ?_
              refine G.aload_n X 109 dL_sites_108 rfl rfl ?_
              refine G.iload X 111 dL_sites_109 rfl rfl ?_
              refine G.bipush X 113 dL_sites_111 rfl (by decide) ?_
              refine GS.site X hO ml_L_23 116 dL_sites_113 rfl (sit_6 (i := i) (by omega)) (by omega) (by decide) (by decide) ⟨Nat.zero_le _, Nat.zero_le _⟩ (Nat.le_of_ble_eq_true rfl) ?_
              refine G.iadd X 117 dL_sites_116 rfl ?_
              refine G.istore_n (ls' := [_, _, _, _, _, _, _, _, _, _, _, _, _]) X 118 dL_sites_117 rfl (by decide) rfl ?_
              refine G.iload X 120 dL_sites_118 rfl rfl ?_
              refine G.aload_n X 121 dL_sites_120 rfl rfl ?_
              refine G.iload X 123 dL_sites_121 rfl rfl ?_
              refine G.bipush X 125 dL_sites_123 rfl (by decide) ?_
              refine GS.site X hO ml_L_23 128 dL_sites_125 rfl (sit_7 (i := i) (by omega)) (by omega) (by decide) (by decide) ⟨Nat.zero_le _, Nat.zero_le _⟩ (Nat.le_of_ble_eq_true rfl) ?_
              refine G.iadd X 129 dL_sites_128 rfl ?_
              refine G.istore (ls' := [_, _, _, _, _, _, _, _, _, _, _, _, _]) X 131 dL_sites_129 rfl (by decide) rfl ?_
              refine G.iload X 133 dL_sites_131 rfl rfl ?_
              refine G.iload X 135 dL_sites_133 rfl rfl ?_
              refine G.if_lt X 142 138 dL_sites_135 (by decide) rfl (by omega) (fun hc135 => by omega) (fun hc135 => ?_)
              refine G.iconst X 139 dL_sites_138 rfl ?_
              refine G.goto X 143 dL_sites_139 (by decide) ?_
              refine G.iadd X 144 dL_sites_143 rfl ?_
              refine G.istore (ls' := [_, _, _, _, _, _, _, _, _, _, _, _, _]) X 146 dL_sites_144 rfl (by decide) rfl ?_
              refine G.iload X 148 dL_sites_146 rfl rfl ?_
              refine G.iload X 150 dL_sites_148 rfl rfl ?_
              refine G.if_ne X 157 153 dL_sites_150 (by decide) rfl (by omega) (fun hc150 => ?_) (fun hc150 => by exfalso; omega)
              refine G.iconst X 158 dL_sites_157 rfl ?_
              refine G.iadd X 159 dL_sites_158 rfl ?_
              refine G.istore (ls' := [_, _, _, _, _, _, _, _, _, _, _, _, _]) X 161 dL_sites_159 rfl (by decide) rfl ?_
              refine G.aload_n X 162 dL_sites_161 rfl rfl ?_
              refine G.iload X 164 dL_sites_162 rfl rfl ?_
              refine G.bipush X 166 dL_sites_164 rfl (by decide) ?_
              refine GS.site X hO ml_L_23 169 dL_sites_166 rfl (sit_9t (i := i) (by omega) ho) (by omega) (by decide) (by decide) ⟨Nat.zero_le _, Nat.zero_le _⟩ (Nat.le_of_ble_eq_true rfl) ?_
              refine G.iload X 171 dL_sites_169 rfl rfl ?_
              refine G.if_eq X 178 174 dL_sites_171 (by decide) rfl (by omega) (fun hc171 => by exact absurd hc171 (by decide)) (fun hc171 => ?_)
              refine G.iconst X 175 dL_sites_174 rfl ?_
              refine G.goto X 179 dL_sites_175 (by decide) ?_
              refine G.icmp_ne X 265 182 dL_sites_179 (by decide) rfl (by omega) (by omega) (fun hc179 => by exact absurd hc179 (by decide)) (fun hc179 => ?_)
              refine G.iload X 184 dL_sites_182 rfl rfl ?_
              refine G.if_lt X 228 187 dL_sites_184 (by decide) rfl (by omega) (fun hc184 => by omega) (fun hc184 => ?_)
              refine G.aload_n X 188 dL_sites_187 rfl rfl ?_
              refine G.iload X 190 dL_sites_188 rfl rfl ?_
              refine G.iconst X 191 dL_sites_190 rfl ?_
              refine GS.set X hO ml_L_19 194 dL_sites_191 rfl (set_5p (i := m) (j := i) (by omega) (by omega)) (by omega) (by decide) (by decide) ⟨Nat.zero_le _, Nat.zero_le _⟩ (Nat.le_of_ble_eq_true rfl) ?_
              refine G.iload X 196 dL_sites_194 rfl rfl ?_
              refine G.icmp_ne X 265 199 dL_sites_196 (by decide) rfl (by omega) (by omega) (fun hc196 => by exfalso; omega) (fun hc196 => ?_)
              refine G.aload_n X 200 dL_sites_199 rfl rfl ?_
              refine G.iload X 202 dL_sites_200 rfl rfl ?_
              refine G.iconst X 203 dL_sites_202 rfl ?_
              refine GS.set X hO ml_L_19 206 dL_sites_203 rfl (set_0 (i := m) (by omega)) (by omega) (by decide) (by decide) ⟨Nat.zero_le _, Nat.zero_le _⟩ (Nat.le_of_ble_eq_true rfl) ?_
              refine G.aload_n X 207 dL_sites_206 rfl rfl ?_
              refine G.iload X 209 dL_sites_207 rfl rfl ?_
              refine G.iconst X 210 dL_sites_209 rfl ?_
              refine GS.site X hO ml_L_23 213 dL_sites_210 rfl (sit_1 (i := i) (by omega)) (by omega) (by decide) (by decide) ⟨Nat.zero_le _, Nat.zero_le _⟩ (Nat.le_of_ble_eq_true rfl) ?_
              refine G.icmp_lt X 265 216 dL_sites_213 (by decide) rfl (by omega) (by omega) (fun hc213 => by exfalso; omega) (fun hc213 => ?_)
              refine G.iload X 218 dL_sites_216 rfl rfl ?_
              refine G.aload_n X 219 dL_sites_218 rfl rfl ?_
              refine G.iload X 221 dL_sites_219 rfl rfl ?_
              refine G.iconst X 222 dL_sites_221 rfl ?_
              refine GS.site X hO ml_L_23 225 dL_sites_222 rfl (sit_3 (i := i) (by omega)) (by omega) (by decide) (by decide) ⟨Nat.zero_le _, Nat.zero_le _⟩ (Nat.le_of_ble_eq_true rfl) ?_
              refine G.icmp_ge X 265 228 dL_sites_225 (by decide) rfl (by omega) (by omega) (fun hc225 => by exfalso; omega) (fun hc225 => ?_)
              refine G.aload_n X 229 dL_sites_228 rfl rfl ?_
              refine G.iload X 231 dL_sites_229 rfl rfl ?_
              refine G.bipush X 233 dL_sites_231 rfl (by decide) ?_
              refine GS.site X hO ml_L_23 236 dL_sites_233 rfl (sit_8z (i := i) (by omega) h8) (by omega) (by decide) (by decide) ⟨Nat.zero_le _, Nat.zero_le _⟩ (Nat.le_of_ble_eq_true rfl) ?_
              refine G.bipush X 238 dL_sites_236 rfl (by decide) ?_
              refine G.icmp_ne X 245 241 dL_sites_238 (by decide) rfl (by omega) (by omega) (fun hc238 => by exact absurd hc238 (by decide)) (fun hc238 => ?_)
              refine G.iconst X 242 dL_sites_241 rfl ?_
              refine G.goto X 246 dL_sites_242 (by decide) ?_
              refine G.aload_n X 247 dL_sites_246 rfl rfl ?_
              refine G.iload X 249 dL_sites_247 rfl rfl ?_
              refine G.bipush X 251 dL_sites_249 rfl (by decide) ?_
              refine GS.site X hO ml_L_23 254 dL_sites_251 rfl (sit_6 (i := i) (by omega)) (by omega) (by decide) (by decide) ⟨Nat.zero_le _, Nat.zero_le _⟩ (Nat.le_of_ble_eq_true rfl) ?_
              refine G.if_ne X 261 257 dL_sites_254 (by decide) rfl (by omega) (fun hc254 => by exfalso; omega) (fun hc254 => ?_)
              refine G.iconst X 258 dL_sites_257 rfl ?_
              refine G.goto X 262 dL_sites_258 (by decide) ?_
              refine G.icmp_eq X 267 265 dL_sites_262 (by decide) rfl (by omega) (by omega) (fun hc262 => ?_) (fun hc262 => by exact absurd hc262 (by decide))
              refine G.iload X 269 dL_sites_267 rfl rfl ?_
              refine G.if_eq X 326 272 dL_sites_269 (by decide) rfl (by omega) (fun hc269 => by exact absurd hc269 (by decide)) (fun hc269 => ?_)
              refine G.iload X 274 dL_sites_272 rfl rfl ?_
              refine G.if_lt X 333 277 dL_sites_274 (by decide) rfl (by omega) (fun hc274 => by exfalso; omega) (fun hc274 => ?_)
              refine G.iload X 279 dL_sites_277 rfl rfl ?_
              refine G.iconst X 280 dL_sites_279 rfl ?_
              refine G.icmp_ne X 287 283 dL_sites_280 (by decide) rfl (by omega) (by omega) (fun hc280 => ?_) (fun hc280 => by exfalso; omega)
              refine G.iconst X 288 dL_sites_287 rfl ?_
              refine G.iload X 290 dL_sites_288 rfl rfl ?_
              refine G.if_ge X 297 293 dL_sites_290 (by decide) rfl (by omega) (fun hc290 => ?_) (fun hc290 => by omega)
              refine G.iconst X 298 dL_sites_297 rfl ?_
              refine G.icmp_ne X 333 301 dL_sites_298 (by decide) rfl (by omega) (by omega) (fun hc298 => by exact absurd hc298 (by decide)) (fun hc298 => ?_)
              refine G.iload X 303 dL_sites_301 rfl rfl ?_
              refine G.if_lt X 335 306 dL_sites_303 (by decide) rfl (by omega) (fun hc303 => by omega) (fun hc303 => ?_)
              refine G.aload_n X 307 dL_sites_306 rfl rfl ?_
              refine G.iload X 309 dL_sites_307 rfl rfl ?_
              refine G.bipush X 311 dL_sites_309 rfl (by decide) ?_
              refine GS.set X hO ml_L_19 314 dL_sites_311 rfl (set_6 (i := m) (by omega)) (by omega) (by decide) (by decide) ⟨Nat.zero_le _, Nat.zero_le _⟩ (Nat.le_of_ble_eq_true rfl) ?_
              refine G.iconst X 315 dL_sites_314 rfl ?_
              refine G.icmp_ne X 335 318 dL_sites_315 (by decide) rfl (by omega) (by omega) (fun hc315 => ?_) (fun hc315 => by exfalso; omega)
              refine G.iinc (ls' := [_, _, _, _, _, _, _, _, _, _, _, _, _]) X 338 dL_sites_335 rfl rfl (by decide) rfl ?_
              refine G.goto X 25 dL_sites_338 (by decide) ?_
              refine G.drop 9 ?_
              refine G.drop 10 ?_
              refine G.drop 11 ?_
              exact ih (i + 1) _ _ _ _ _ _ M (by omega) (by simp only [sumN_s]; omega) (by simp only [sumN_s]; omega) (by simp only [sumN_s]; omega) (by simp only [sumN_s]; omega) (by simp only [sumN_s]; omega) (by simp only [sumN_s]; omega) hO
          · have h6 : ¬ fC r i 6 = 0 := fun g => h8 (j8.mpr g)
            refine G.iconst X 40 dL_sites_39 rfl ?_
            have hcr : causeR r i = 0 ∨ 2 ≤ causeR r i ∧ causeR r i ≤ 3 := by
              rcases causeR_has (r := r) (s := i) (by omega) with c | c | c <;> omega
            rcases hcr with hc | hc
            · have ew : wdI r i = 1 := if_pos ⟨ho, hc⟩
              refine GS.site X hO ml_L_23 43 dL_sites_40 rfl (sit_2 (i := i) (by omega)) (by omega) (by decide) (by decide) ⟨Nat.zero_le _, Nat.zero_le _⟩ (Nat.le_of_ble_eq_true rfl) ?_
              refine G.iload X 45 dL_sites_43 rfl rfl ?_
              refine G.icmp_gt X 64 48 dL_sites_45 (by decide) rfl (by omega) (by omega) (fun hc45 => by exfalso; omega) (fun hc45 => ?_)
              refine G.iload X 50 dL_sites_48 rfl rfl ?_
              refine G.aload_n X 51 dL_sites_50 rfl rfl ?_
              refine G.iload X 53 dL_sites_51 rfl rfl ?_
              refine G.iconst X 54 dL_sites_53 rfl ?_
              refine GS.site X hO ml_L_23 57 dL_sites_54 rfl (sit_3 (i := i) (by omega)) (by omega) (by decide) (by decide) ⟨Nat.zero_le _, Nat.zero_le _⟩ (Nat.le_of_ble_eq_true rfl) ?_
              refine G.icmp_ge X 64 60 dL_sites_57 (by decide) rfl (by omega) (by omega) (fun hc57 => by exfalso; omega) (fun hc57 => ?_)
              refine G.iconst X 61 dL_sites_60 rfl ?_
              refine G.goto X 65 dL_sites_61 (by decide) ?_
              refine G.istore (ls' := [_, _, _, _, _, _, _, _, _, _, _, _, _]) X 67 dL_sites_65 rfl (by decide) rfl ?_
              refine G.aload_n X 68 dL_sites_67 rfl rfl ?_
              refine G.iload X 70 dL_sites_68 rfl rfl ?_
              refine G.iconst X 71 dL_sites_70 rfl ?_
              refine GS.site X hO ml_L_23 74 dL_sites_71 rfl (sit_4p (i := i) (j := m) (by omega) (by omega)) (by omega) (by decide) (by decide) ⟨Nat.zero_le _, Nat.zero_le _⟩ (Nat.le_of_ble_eq_true rfl) ?_
              refine G.istore (ls' := [_, _, _, _, _, _, _, _, _, _, _, _, _]) X 76 dL_sites_74 rfl (by decide) rfl ?_
              refine G.aload_n X 77 dL_sites_76 rfl rfl ?_
              refine G.iload X 79 dL_sites_77 rfl rfl ?_
              refine GS.why X hO ml_L_26 82 dL_sites_79 rfl ((why_o (i := i) (by omega) ho).trans hc) (by omega) (by decide) ⟨Nat.zero_le _, Nat.zero_le _⟩ (Nat.le_of_ble_eq_true rfl) ?_
              refine G.istore (ls' := [_, _, _, _, _, _, _, _, _, _, _, _, _]) X 84 dL_sites_82 rfl (by decide) rfl ?_
              refine G.iload_n X 85 dL_sites_84 rfl rfl ?_
              refine G.iload X 87 dL_sites_85 rfl rfl ?_
              refine G.if_eq X 94 90 dL_sites_87 (by decide) rfl (by omega) (fun hc87 => by exact absurd hc87 (by decide)) (fun hc87 => ?_)
              refine G.iconst X 91 dL_sites_90 rfl ?_
              refine G.goto X 95 dL_sites_91 (by decide) ?_
              refine G.iadd X 96 dL_sites_95 rfl ?_
              refine G.istore_n (ls' := [_, _, _, _, _, _, _, _, _, _, _, _, _]) X 97 dL_sites_96 rfl (by decide) rfl ?_
              refine G.iload_n X 98 dL_sites_97 rfl rfl ?_
              refine G.aload_n X 99 dL_sites_98 rfl rfl ?_
              refine G.iload X 101 dL_sites_99 rfl rfl ?_
              refine G.iconst X 102 dL_sites_101 rfl ?_
              refine GS.site X hO ml_L_23 105 dL_sites_102 rfl (sit_5 (i := i) (by omega)) (by omega) (by decide) (by decide) ⟨Nat.zero_le _, Nat.zero_le _⟩ (Nat.le_of_ble_eq_true rfl) ?_
              refine G.iadd X 106 dL_sites_105 rfl ?_
              refine G.istore_n (ls' := [_, _, _, _, _, _, _, _, _, _, _, _, _]) X 107 dL_sites_106 rfl (by decide) rfl ?_
              refine G.iload_n X 108 dL_sites_107 rfl rfl ?_
              refine G.aload_n X 109 dL_sites_108 rfl rfl ?_
              refine G.iload X 111 dL_sites_109 rfl rfl ?_
              refine G.bipush X 113 dL_sites_111 rfl (by decide) ?_
              refine GS.site X hO ml_L_23 116 dL_sites_113 rfl (sit_6 (i := i) (by omega)) (by omega) (by decide) (by decide) ⟨Nat.zero_le _, Nat.zero_le _⟩ (Nat.le_of_ble_eq_true rfl) ?_
              refine G.iadd X 117 dL_sites_116 rfl ?_
              refine G.istore_n (ls' := [_, _, _, _, _, _, _, _, _, _, _, _, _]) X 118 dL_sites_117 rfl (by decide) rfl ?_
              refine G.iload X 120 dL_sites_118 rfl rfl ?_
              refine G.aload_n X 121 dL_sites_120 rfl rfl ?_
              refine G.iload X 123 dL_sites_121 rfl rfl ?_
              refine G.bipush X 125 dL_sites_123 rfl (by decide) ?_
              refine GS.site X hO ml_L_23 128 dL_sites_125 rfl (sit_7 (i := i) (by omega)) (by omega) (by decide) (by decide) ⟨Nat.zero_le _, Nat.zero_le _⟩ (Nat.le_of_ble_eq_true rfl) ?_
              refine G.iadd X 129 dL_sites_128 rfl ?_
              refine G.istore (ls' := [_, _, _, _, _, _, _, _, _, _, _, _, _]) X 131 dL_sites_129 rfl (by decide) rfl ?_
              refine G.iload X 133 dL_sites_131 rfl rfl ?_
              refine G.iload X 135 dL_sites_133 rfl rfl ?_
              refine G.if_lt X 142 138 dL_sites_135 (by decide) rfl (by omega) (fun hc135 => by omega) (fun hc135 => ?_)
              refine G.iconst X 139 dL_sites_138 rfl ?_
              refine G.goto X 143 dL_sites_139 (by decide) ?_
              refine G.iadd X 144 dL_sites_143 rfl ?_
              refine G.istore (ls' := [_, _, _, _, _, _, _, _, _, _, _, _, _]) X 146 dL_sites_144 rfl (by decide) rfl ?_
              refine G.iload X 148 dL_sites_146 rfl rfl ?_
              refine G.iload X 150 dL_sites_148 rfl rfl ?_
              refine G.if_ne X 157 153 dL_sites_150 (by decide) rfl (by omega) (fun hc150 => by exact absurd hc150 (by decide)) (fun hc150 => ?_)
              refine G.iconst X 154 dL_sites_153 rfl ?_
              refine G.goto X 158 dL_sites_154 (by decide) ?_
              refine G.iadd X 159 dL_sites_158 rfl ?_
              refine G.istore (ls' := [_, _, _, _, _, _, _, _, _, _, _, _, _]) X 161 dL_sites_159 rfl (by decide) rfl ?_
              refine G.aload_n X 162 dL_sites_161 rfl rfl ?_
              refine G.iload X 164 dL_sites_162 rfl rfl ?_
              refine G.bipush X 166 dL_sites_164 rfl (by decide) ?_
              refine GS.site X hO ml_L_23 169 dL_sites_166 rfl (sit_9t (i := i) (by omega) ho) (by omega) (by decide) (by decide) ⟨Nat.zero_le _, Nat.zero_le _⟩ (Nat.le_of_ble_eq_true rfl) ?_
              refine G.iload X 171 dL_sites_169 rfl rfl ?_
              refine G.if_eq X 178 174 dL_sites_171 (by decide) rfl (by omega) (fun hc171 => by exact absurd hc171 (by decide)) (fun hc171 => ?_)
              refine G.iconst X 175 dL_sites_174 rfl ?_
              refine G.goto X 179 dL_sites_175 (by decide) ?_
              refine G.icmp_ne X 265 182 dL_sites_179 (by decide) rfl (by omega) (by omega) (fun hc179 => by exact absurd hc179 (by decide)) (fun hc179 => ?_)
              refine G.iload X 184 dL_sites_182 rfl rfl ?_
              refine G.if_lt X 228 187 dL_sites_184 (by decide) rfl (by omega) (fun hc184 => by omega) (fun hc184 => ?_)
              refine G.aload_n X 188 dL_sites_187 rfl rfl ?_
              refine G.iload X 190 dL_sites_188 rfl rfl ?_
              refine G.iconst X 191 dL_sites_190 rfl ?_
              refine GS.set X hO ml_L_19 194 dL_sites_191 rfl (set_5p (i := m) (j := i) (by omega) (by omega)) (by omega) (by decide) (by decide) ⟨Nat.zero_le _, Nat.zero_le _⟩ (Nat.le_of_ble_eq_true rfl) ?_
              refine G.iload X 196 dL_sites_194 rfl rfl ?_
              refine G.icmp_ne X 265 199 dL_sites_196 (by decide) rfl (by omega) (by omega) (fun hc196 => by exfalso; omega) (fun hc196 => ?_)
              refine G.aload_n X 200 dL_sites_199 rfl rfl ?_
              refine G.iload X 202 dL_sites_200 rfl rfl ?_
              refine G.iconst X 203 dL_sites_202 rfl ?_
              refine GS.set X hO ml_L_19 206 dL_sites_203 rfl (set_0 (i := m) (by omega)) (by omega) (by decide) (by decide) ⟨Nat.zero_le _, Nat.zero_le _⟩ (Nat.le_of_ble_eq_true rfl) ?_
              refine G.aload_n X 207 dL_sites_206 rfl rfl ?_
              refine G.iload X 209 dL_sites_207 rfl rfl ?_
              refine G.iconst X 210 dL_sites_209 rfl ?_
              refine GS.site X hO ml_L_23 213 dL_sites_210 rfl (sit_1 (i := i) (by omega)) (by omega) (by decide) (by decide) ⟨Nat.zero_le _, Nat.zero_le _⟩ (Nat.le_of_ble_eq_true rfl) ?_
              refine G.icmp_lt X 265 216 dL_sites_213 (by decide) rfl (by omega) (by omega) (fun hc213 => by exfalso; omega) (fun hc213 => ?_)
              refine G.iload X 218 dL_sites_216 rfl rfl ?_
              refine G.aload_n X 219 dL_sites_218 rfl rfl ?_
              refine G.iload X 221 dL_sites_219 rfl rfl ?_
              refine G.iconst X 222 dL_sites_221 rfl ?_
              refine GS.site X hO ml_L_23 225 dL_sites_222 rfl (sit_3 (i := i) (by omega)) (by omega) (by decide) (by decide) ⟨Nat.zero_le _, Nat.zero_le _⟩ (Nat.le_of_ble_eq_true rfl) ?_
              refine G.icmp_ge X 265 228 dL_sites_225 (by decide) rfl (by omega) (by omega) (fun hc225 => by exfalso; omega) (fun hc225 => ?_)
              refine G.aload_n X 229 dL_sites_228 rfl rfl ?_
              refine G.iload X 231 dL_sites_229 rfl rfl ?_
              refine G.bipush X 233 dL_sites_231 rfl (by decide) ?_
              refine GS.site X hO ml_L_23 236 dL_sites_233 rfl (sit_8p (i := i) (by omega) h8) (by omega) (by decide) (by decide) ⟨Nat.zero_le _, Nat.zero_le _⟩ (Nat.le_of_ble_eq_true rfl) ?_
              refine G.bipush X 238 dL_sites_236 rfl (by decide) ?_
              refine G.icmp_ne X 245 241 dL_sites_238 (by decide) rfl (by omega) (by omega) (fun hc238 => ?_) (fun hc238 => by exfalso; omega)
              refine G.iconst X 246 dL_sites_245 rfl ?_
              refine G.aload_n X 247 dL_sites_246 rfl rfl ?_
              refine G.iload X 249 dL_sites_247 rfl rfl ?_
              refine G.bipush X 251 dL_sites_249 rfl (by decide) ?_
              refine GS.site X hO ml_L_23 254 dL_sites_251 rfl (sit_6 (i := i) (by omega)) (by omega) (by decide) (by decide) ⟨Nat.zero_le _, Nat.zero_le _⟩ (Nat.le_of_ble_eq_true rfl) ?_
              refine G.if_ne X 261 257 dL_sites_254 (by decide) rfl (by omega) (fun hc254 => ?_) (fun hc254 => by exfalso; omega)
              refine G.iconst X 262 dL_sites_261 rfl ?_
              refine G.icmp_eq X 267 265 dL_sites_262 (by decide) rfl (by omega) (by omega) (fun hc262 => ?_) (fun hc262 => by exact absurd hc262 (by decide))
              refine G.iload X 269 dL_sites_267 rfl rfl ?_
              refine G.if_eq X 326 272 dL_sites_269 (by decide) rfl (by omega) (fun hc269 => by exact absurd hc269 (by decide)) (fun hc269 => ?_)
              refine G.iload X 274 dL_sites_272 rfl rfl ?_
              refine G.if_lt X 333 277 dL_sites_274 (by decide) rfl (by omega) (fun hc274 => by exact absurd hc274 (by decide)) (fun hc274 => ?_)
              refine G.iload X 279 dL_sites_277 rfl rfl ?_
              refine G.iconst X 280 dL_sites_279 rfl ?_
              refine G.icmp_ne X 287 283 dL_sites_280 (by decide) rfl (by omega) (by omega) (fun hc280 => ?_) (fun hc280 => by exact absurd hc280 (by decide))
              refine G.iconst X 288 dL_sites_287 rfl ?_
              refine G.iload X 290 dL_sites_288 rfl rfl ?_
              refine G.if_ge X 297 293 dL_sites_290 (by decide) rfl (by omega) (fun hc290 => ?_) (fun hc290 => by omega)
              refine G.iconst X 298 dL_sites_297 rfl ?_
              refine G.icmp_ne X 333 301 dL_sites_298 (by decide) rfl (by omega) (by omega) (fun hc298 => by exact absurd hc298 (by decide)) (fun hc298 => ?_)
              refine G.iload X 303 dL_sites_301 rfl rfl ?_
              refine G.if_lt X 335 306 dL_sites_303 (by decide) rfl (by omega) (fun hc303 => by omega) (fun hc303 => ?_)
              refine G.aload_n X 307 dL_sites_306 rfl rfl ?_
              refine G.iload X 309 dL_sites_307 rfl rfl ?_
              refine G.bipush X 311 dL_sites_309 rfl (by decide) ?_
              refine GS.set X hO ml_L_19 314 dL_sites_311 rfl (set_6 (i := m) (by omega)) (by omega) (by decide) (by decide) ⟨Nat.zero_le _, Nat.zero_le _⟩ (Nat.le_of_ble_eq_true rfl) ?_
              refine G.iconst X 315 dL_sites_314 rfl ?_
              refine G.icmp_ne X 335 318 dL_sites_315 (by decide) rfl (by omega) (by omega) (fun hc315 => ?_) (fun hc315 => ?_)
              · refine G.iinc (ls' := [_, _, _, _, _, _, _, _, _, _, _, _, _]) X 338 dL_sites_335 rfl rfl (by decide) rfl ?_
                refine G.goto X 25 dL_sites_338 (by decide) ?_
                refine G.drop 9 ?_
                refine G.drop 10 ?_
                refine G.drop 11 ?_
                exact ih (i + 1) _ _ _ _ _ _ M (by omega) (by simp only [sumN_s]; omega) (by simp only [sumN_s]; omega) (by simp only [sumN_s]; omega) (by simp only [sumN_s]; omega) (by simp only [sumN_s]; omega) (by simp only [sumN_s]; omega) hO
              · refine G.iload X 320 dL_sites_318 rfl rfl ?_
                refine G.if_eq X 335 323 dL_sites_320 (by decide) rfl (by omega) (fun hc320 => ?_) (fun hc320 => by exact absurd hc320 (by decide))
                refine G.iinc (ls' := [_, _, _, _, _, _, _, _, _, _, _, _, _]) X 338 dL_sites_335 rfl rfl (by decide) rfl ?_
                refine G.goto X 25 dL_sites_338 (by decide) ?_
                refine G.drop 9 ?_
                refine G.drop 10 ?_
                refine G.drop 11 ?_
                exact ih (i + 1) _ _ _ _ _ _ M (by omega) (by simp only [sumN_s]; omega) (by simp only [sumN_s]; omega) (by simp only [sumN_s]; omega) (by simp only [sumN_s]; omega) (by simp only [sumN_s]; omega) (by simp only [sumN_s]; omega) hO
            · have ew : wdI r i = 0 := if_neg (fun g => by
                have g2 := g.2
                omega)
              have hrun : ¬ fS r m 6 = 1 := fun g => by
                have hc0 : causeR r i = 0 := by
                  unfold causeR
                  rw [if_neg (by omega), hasN_is e4]
                  unfold caF
                  exact if_pos g
                omega
              refine GS.site X hO ml_L_23 43 dL_sites_40 rfl (sit_2 (i := i) (by omega)) (by omega) (by decide) (by decide) ⟨Nat.zero_le _, Nat.zero_le _⟩ (Nat.le_of_ble_eq_true rfl) ?_
              refine G.iload X 45 dL_sites_43 rfl rfl ?_
              refine G.icmp_gt X 64 48 dL_sites_45 (by decide) rfl (by omega) (by omega) (fun hc45 => by exfalso; omega) (fun hc45 => ?_)
              refine G.iload X 50 dL_sites_48 rfl rfl ?_
              refine G.aload_n X 51 dL_sites_50 rfl rfl ?_
              refine G.iload X 53 dL_sites_51 rfl rfl ?_
              refine G.iconst X 54 dL_sites_53 rfl ?_
              refine GS.site X hO ml_L_23 57 dL_sites_54 rfl (sit_3 (i := i) (by omega)) (by omega) (by decide) (by decide) ⟨Nat.zero_le _, Nat.zero_le _⟩ (Nat.le_of_ble_eq_true rfl) ?_
              refine G.icmp_ge X 64 60 dL_sites_57 (by decide) rfl (by omega) (by omega) (fun hc57 => by exfalso; omega) (fun hc57 => ?_)
              refine G.iconst X 61 dL_sites_60 rfl ?_
              refine G.goto X 65 dL_sites_61 (by decide) ?_
              refine G.istore (ls' := [_, _, _, _, _, _, _, _, _, _, _, _, _]) X 67 dL_sites_65 rfl (by decide) rfl ?_
              refine G.aload_n X 68 dL_sites_67 rfl rfl ?_
              refine G.iload X 70 dL_sites_68 rfl rfl ?_
              refine G.iconst X 71 dL_sites_70 rfl ?_
              refine GS.site X hO ml_L_23 74 dL_sites_71 rfl (sit_4p (i := i) (j := m) (by omega) (by omega)) (by omega) (by decide) (by decide) ⟨Nat.zero_le _, Nat.zero_le _⟩ (Nat.le_of_ble_eq_true rfl) ?_
              refine G.istore (ls' := [_, _, _, _, _, _, _, _, _, _, _, _, _]) X 76 dL_sites_74 rfl (by decide) rfl ?_
              refine G.aload_n X 77 dL_sites_76 rfl rfl ?_
              refine G.iload X 79 dL_sites_77 rfl rfl ?_
              refine GS.why X hO ml_L_26 82 dL_sites_79 rfl (why_o (i := i) (by omega) ho) (by omega) (by decide) ⟨Nat.zero_le _, Nat.zero_le _⟩ (Nat.le_of_ble_eq_true rfl) ?_
              refine G.istore (ls' := [_, _, _, _, _, _, _, _, _, _, _, _, _]) X 84 dL_sites_82 rfl (by decide) rfl ?_
              refine G.iload_n X 85 dL_sites_84 rfl rfl ?_
              refine G.iload X 87 dL_sites_85 rfl rfl ?_
              refine G.if_eq X 94 90 dL_sites_87 (by decide) rfl (by omega) (fun hc87 => by exact absurd hc87 (by decide)) (fun hc87 => ?_)
              refine G.iconst X 91 dL_sites_90 rfl ?_
              refine G.goto X 95 dL_sites_91 (by decide) ?_
              refine G.iadd X 96 dL_sites_95 rfl ?_
              refine G.istore_n (ls' := [_, _, _, _, _, _, _, _, _, _, _, _, _]) X 97 dL_sites_96 rfl (by decide) rfl ?_
              refine G.iload_n X 98 dL_sites_97 rfl rfl ?_
              refine G.aload_n X 99 dL_sites_98 rfl rfl ?_
              refine G.iload X 101 dL_sites_99 rfl rfl ?_
              refine G.iconst X 102 dL_sites_101 rfl ?_
              refine GS.site X hO ml_L_23 105 dL_sites_102 rfl (sit_5 (i := i) (by omega)) (by omega) (by decide) (by decide) ⟨Nat.zero_le _, Nat.zero_le _⟩ (Nat.le_of_ble_eq_true rfl) ?_
              refine G.iadd X 106 dL_sites_105 rfl ?_
              refine G.istore_n (ls' := [_, _, _, _, _, _, _, _, _, _, _, _, _]) X 107 dL_sites_106 rfl (by decide) rfl ?_
              refine G.iload_n X 108 dL_sites_107 rfl rfl ?_
              refine G.aload_n X 109 dL_sites_108 rfl rfl ?_
              refine G.iload X 111 dL_sites_109 rfl rfl ?_
              refine G.bipush X 113 dL_sites_111 rfl (by decide) ?_
              refine GS.site X hO ml_L_23 116 dL_sites_113 rfl (sit_6 (i := i) (by omega)) (by omega) (by decide) (by decide) ⟨Nat.zero_le _, Nat.zero_le _⟩ (Nat.le_of_ble_eq_true rfl) ?_
              refine G.iadd X 117 dL_sites_116 rfl ?_
              refine G.istore_n (ls' := [_, _, _, _, _, _, _, _, _, _, _, _, _]) X 118 dL_sites_117 rfl (by decide) rfl ?_
              refine G.iload X 120 dL_sites_118 rfl rfl ?_
              refine G.aload_n X 121 dL_sites_120 rfl rfl ?_
              refine G.iload X 123 dL_sites_121 rfl rfl ?_
              refine G.bipush X 125 dL_sites_123 rfl (by decide) ?_
              refine GS.site X hO ml_L_23 128 dL_sites_125 rfl (sit_7 (i := i) (by omega)) (by omega) (by decide) (by decide) ⟨Nat.zero_le _, Nat.zero_le _⟩ (Nat.le_of_ble_eq_true rfl) ?_
              refine G.iadd X 129 dL_sites_128 rfl ?_
              refine G.istore (ls' := [_, _, _, _, _, _, _, _, _, _, _, _, _]) X 131 dL_sites_129 rfl (by decide) rfl ?_
              refine G.iload X 133 dL_sites_131 rfl rfl ?_
              refine G.iload X 135 dL_sites_133 rfl rfl ?_
              refine G.if_lt X 142 138 dL_sites_135 (by decide) rfl (by omega) (fun hc135 => by omega) (fun hc135 => ?_)
              refine G.iconst X 139 dL_sites_138 rfl ?_
              refine G.goto X 143 dL_sites_139 (by decide) ?_
              refine G.iadd X 144 dL_sites_143 rfl ?_
              refine G.istore (ls' := [_, _, _, _, _, _, _, _, _, _, _, _, _]) X 146 dL_sites_144 rfl (by decide) rfl ?_
              refine G.iload X 148 dL_sites_146 rfl rfl ?_
              refine G.iload X 150 dL_sites_148 rfl rfl ?_
              refine G.if_ne X 157 153 dL_sites_150 (by decide) rfl (by omega) (fun hc150 => ?_) (fun hc150 => by exfalso; omega)
              refine G.iconst X 158 dL_sites_157 rfl ?_
              refine G.iadd X 159 dL_sites_158 rfl ?_
              refine G.istore (ls' := [_, _, _, _, _, _, _, _, _, _, _, _, _]) X 161 dL_sites_159 rfl (by decide) rfl ?_
              refine G.aload_n X 162 dL_sites_161 rfl rfl ?_
              refine G.iload X 164 dL_sites_162 rfl rfl ?_
              refine G.bipush X 166 dL_sites_164 rfl (by decide) ?_
              refine GS.site X hO ml_L_23 169 dL_sites_166 rfl (sit_9t (i := i) (by omega) ho) (by omega) (by decide) (by decide) ⟨Nat.zero_le _, Nat.zero_le _⟩ (Nat.le_of_ble_eq_true rfl) ?_
              refine G.iload X 171 dL_sites_169 rfl rfl ?_
              refine G.if_eq X 178 174 dL_sites_171 (by decide) rfl (by omega) (fun hc171 => by exact absurd hc171 (by decide)) (fun hc171 => ?_)
              refine G.iconst X 175 dL_sites_174 rfl ?_
              refine G.goto X 179 dL_sites_175 (by decide) ?_
              refine G.icmp_ne X 265 182 dL_sites_179 (by decide) rfl (by omega) (by omega) (fun hc179 => by exact absurd hc179 (by decide)) (fun hc179 => ?_)
              refine G.iload X 184 dL_sites_182 rfl rfl ?_
              refine G.if_lt X 228 187 dL_sites_184 (by decide) rfl (by omega) (fun hc184 => by omega) (fun hc184 => ?_)
              refine G.aload_n X 188 dL_sites_187 rfl rfl ?_
              refine G.iload X 190 dL_sites_188 rfl rfl ?_
              refine G.iconst X 191 dL_sites_190 rfl ?_
              refine GS.set X hO ml_L_19 194 dL_sites_191 rfl (set_5p (i := m) (j := i) (by omega) (by omega)) (by omega) (by decide) (by decide) ⟨Nat.zero_le _, Nat.zero_le _⟩ (Nat.le_of_ble_eq_true rfl) ?_
              refine G.iload X 196 dL_sites_194 rfl rfl ?_
              refine G.icmp_ne X 265 199 dL_sites_196 (by decide) rfl (by omega) (by omega) (fun hc196 => by exfalso; omega) (fun hc196 => ?_)
              refine G.aload_n X 200 dL_sites_199 rfl rfl ?_
              refine G.iload X 202 dL_sites_200 rfl rfl ?_
              refine G.iconst X 203 dL_sites_202 rfl ?_
              refine GS.set X hO ml_L_19 206 dL_sites_203 rfl (set_0 (i := m) (by omega)) (by omega) (by decide) (by decide) ⟨Nat.zero_le _, Nat.zero_le _⟩ (Nat.le_of_ble_eq_true rfl) ?_
              refine G.aload_n X 207 dL_sites_206 rfl rfl ?_
              refine G.iload X 209 dL_sites_207 rfl rfl ?_
              refine G.iconst X 210 dL_sites_209 rfl ?_
              refine GS.site X hO ml_L_23 213 dL_sites_210 rfl (sit_1 (i := i) (by omega)) (by omega) (by decide) (by decide) ⟨Nat.zero_le _, Nat.zero_le _⟩ (Nat.le_of_ble_eq_true rfl) ?_
              refine G.icmp_lt X 265 216 dL_sites_213 (by decide) rfl (by omega) (by omega) (fun hc213 => by exfalso; omega) (fun hc213 => ?_)
              refine G.iload X 218 dL_sites_216 rfl rfl ?_
              refine G.aload_n X 219 dL_sites_218 rfl rfl ?_
              refine G.iload X 221 dL_sites_219 rfl rfl ?_
              refine G.iconst X 222 dL_sites_221 rfl ?_
              refine GS.site X hO ml_L_23 225 dL_sites_222 rfl (sit_3 (i := i) (by omega)) (by omega) (by decide) (by decide) ⟨Nat.zero_le _, Nat.zero_le _⟩ (Nat.le_of_ble_eq_true rfl) ?_
              refine G.icmp_ge X 265 228 dL_sites_225 (by decide) rfl (by omega) (by omega) (fun hc225 => by exfalso; omega) (fun hc225 => ?_)
              refine G.aload_n X 229 dL_sites_228 rfl rfl ?_
              refine G.iload X 231 dL_sites_229 rfl rfl ?_
              refine G.bipush X 233 dL_sites_231 rfl (by decide) ?_
              refine GS.site X hO ml_L_23 236 dL_sites_233 rfl (sit_8p (i := i) (by omega) h8) (by omega) (by decide) (by decide) ⟨Nat.zero_le _, Nat.zero_le _⟩ (Nat.le_of_ble_eq_true rfl) ?_
              refine G.bipush X 238 dL_sites_236 rfl (by decide) ?_
              refine G.icmp_ne X 245 241 dL_sites_238 (by decide) rfl (by omega) (by omega) (fun hc238 => ?_) (fun hc238 => by exfalso; omega)
              refine G.iconst X 246 dL_sites_245 rfl ?_
              refine G.aload_n X 247 dL_sites_246 rfl rfl ?_
              refine G.iload X 249 dL_sites_247 rfl rfl ?_
              refine G.bipush X 251 dL_sites_249 rfl (by decide) ?_
              refine GS.site X hO ml_L_23 254 dL_sites_251 rfl (sit_6 (i := i) (by omega)) (by omega) (by decide) (by decide) ⟨Nat.zero_le _, Nat.zero_le _⟩ (Nat.le_of_ble_eq_true rfl) ?_
              refine G.if_ne X 261 257 dL_sites_254 (by decide) rfl (by omega) (fun hc254 => ?_) (fun hc254 => by exfalso; omega)
              refine G.iconst X 262 dL_sites_261 rfl ?_
              refine G.icmp_eq X 267 265 dL_sites_262 (by decide) rfl (by omega) (by omega) (fun hc262 => ?_) (fun hc262 => by exact absurd hc262 (by decide))
              refine G.iload X 269 dL_sites_267 rfl rfl ?_
              refine G.if_eq X 326 272 dL_sites_269 (by decide) rfl (by omega) (fun hc269 => by exact absurd hc269 (by decide)) (fun hc269 => ?_)
              refine G.iload X 274 dL_sites_272 rfl rfl ?_
              refine G.if_lt X 333 277 dL_sites_274 (by decide) rfl (by omega) (fun hc274 => by exfalso; omega) (fun hc274 => ?_)
              refine G.iload X 279 dL_sites_277 rfl rfl ?_
              refine G.iconst X 280 dL_sites_279 rfl ?_
              refine G.icmp_ne X 287 283 dL_sites_280 (by decide) rfl (by omega) (by omega) (fun hc280 => ?_) (fun hc280 => by exfalso; omega)
              refine G.iconst X 288 dL_sites_287 rfl ?_
              refine G.iload X 290 dL_sites_288 rfl rfl ?_
              refine G.if_ge X 297 293 dL_sites_290 (by decide) rfl (by omega) (fun hc290 => ?_) (fun hc290 => by omega)
              refine G.iconst X 298 dL_sites_297 rfl ?_
              refine G.icmp_ne X 333 301 dL_sites_298 (by decide) rfl (by omega) (by omega) (fun hc298 => by exact absurd hc298 (by decide)) (fun hc298 => ?_)
              refine G.iload X 303 dL_sites_301 rfl rfl ?_
              refine G.if_lt X 335 306 dL_sites_303 (by decide) rfl (by omega) (fun hc303 => by omega) (fun hc303 => ?_)
              refine G.aload_n X 307 dL_sites_306 rfl rfl ?_
              refine G.iload X 309 dL_sites_307 rfl rfl ?_
              refine G.bipush X 311 dL_sites_309 rfl (by decide) ?_
              refine GS.set X hO ml_L_19 314 dL_sites_311 rfl (set_6 (i := m) (by omega)) (by omega) (by decide) (by decide) ⟨Nat.zero_le _, Nat.zero_le _⟩ (Nat.le_of_ble_eq_true rfl) ?_
              refine G.iconst X 315 dL_sites_314 rfl ?_
              refine G.icmp_ne X 335 318 dL_sites_315 (by decide) rfl (by omega) (by omega) (fun hc315 => ?_) (fun hc315 => by exfalso; omega)
              refine G.iinc (ls' := [_, _, _, _, _, _, _, _, _, _, _, _, _]) X 338 dL_sites_335 rfl rfl (by decide) rfl ?_
              refine G.goto X 25 dL_sites_338 (by decide) ?_
              refine G.drop 9 ?_
              refine G.drop 10 ?_
              refine G.drop 11 ?_
              exact ih (i + 1) _ _ _ _ _ _ M (by omega) (by simp only [sumN_s]; omega) (by simp only [sumN_s]; omega) (by simp only [sumN_s]; omega) (by simp only [sumN_s]; omega) (by simp only [sumN_s]; omega) (by simp only [sumN_s]; omega) hO
      · have hob : ¬ (fC r i 2 ≤ r 0 ∧ r 0 < fC r i 3) := fun g => ho (openB_iff.mpr g)
        have eo : opI r i = 0 := if_neg ho
        have ew : wdI r i = 0 := if_neg (fun g => ho g.1)
        refine G.aload_n X 37 dL_sites_36 rfl rfl ?_
        rcases hV.s4 hi with e4 | ⟨m, e4, hm⟩
        · have ex : owI r i = 0 := if_neg (by omega)
          refine G.iload X 39 dL_sites_37 rfl rfl ?_
          have j8 := hJ.2.2.2.1 i hi
          by_cases h8 : fC r i 8 = 0
          · have h6 := j8.mp h8
            refine G.iconst X 40 dL_sites_39 rfl ?_
            have hba : r 0 < fC r i 2 ∨ ¬ r 0 < fC r i 2 ∧ fC r i 3 ≤ r 0 := by omega
            rcases hba with hb | hb
            · skip
              refine GS.site X hO ml_L_23 43 dL_sites_40 rfl (sit_2 (i := i) (by omega)) (by omega) (by decide) (by decide) ⟨Nat.zero_le _, Nat.zero_le _⟩ (Nat.le_of_ble_eq_true rfl) ?_
              refine G.iload X 45 dL_sites_43 rfl rfl ?_
              refine G.icmp_gt X 64 48 dL_sites_45 (by decide) rfl (by omega) (by omega) (fun hc45 => ?_) (fun hc45 => by exfalso; omega)
              refine G.iconst X 65 dL_sites_64 rfl ?_
              refine G.istore (ls' := [_, _, _, _, _, _, _, _, _, _, _, _, _]) X 67 dL_sites_65 rfl (by decide) rfl ?_
              refine G.aload_n X 68 dL_sites_67 rfl rfl ?_
              refine G.iload X 70 dL_sites_68 rfl rfl ?_
              refine G.iconst X 71 dL_sites_70 rfl ?_
              refine GS.site X hO ml_L_23 74 dL_sites_71 rfl (sit_4z (i := i) (by omega) (by omega)) (by omega) (by decide) (by decide) ⟨Nat.zero_le _, Nat.zero_le _⟩ (Nat.le_of_ble_eq_true rfl) ?_
              refine G.istore (ls' := [_, _, _, _, _, _, _, _, _, _, _, _, _]) X 76 dL_sites_74 rfl (by decide) rfl ?_
              refine G.aload_n X 77 dL_sites_76 rfl rfl ?_
              refine G.iload X 79 dL_sites_77 rfl rfl ?_
              refine GS.why X hO ml_L_26 82 dL_sites_79 rfl (why_c (i := i) (by omega) ho) (by omega) (by decide) ⟨Nat.zero_le _, Nat.zero_le _⟩ (Nat.le_of_ble_eq_true rfl) ?_
              refine G.istore (ls' := [_, _, _, _, _, _, _, _, _, _, _, _, _]) X 84 dL_sites_82 rfl (by decide) rfl ?_
              refine G.iload_n X 85 dL_sites_84 rfl rfl ?_
              refine G.iload X 87 dL_sites_85 rfl rfl ?_
              refine G.if_eq X 94 90 dL_sites_87 (by decide) rfl (by omega) (fun hc87 => ?_) (fun hc87 => by exact absurd hc87 (by decide))
              refine G.iconst X 95 dL_sites_94 rfl ?_
              refine G.iadd X 96 dL_sites_95 rfl ?_
              refine G.istore_n (ls' := [_, _, _, _, _, _, _, _, _, _, _, _, _]) X 97 dL_sites_96 rfl (by decide) rfl ?_
              refine G.iload_n X 98 dL_sites_97 rfl rfl ?_
              refine G.aload_n X 99 dL_sites_98 rfl rfl ?_
              refine G.iload X 101 dL_sites_99 rfl rfl ?_
              refine G.iconst X 102 dL_sites_101 rfl ?_
              refine GS.site X hO ml_L_23 105 dL_sites_102 rfl (sit_5 (i := i) (by omega)) (by omega) (by decide) (by decide) ⟨Nat.zero_le _, Nat.zero_le _⟩ (Nat.le_of_ble_eq_true rfl) ?_
              refine G.iadd X 106 dL_sites_105 rfl ?_
              refine G.istore_n (ls' := [_, _, _, _, _, _, _, _, _, _, _, _, _]) X 107 dL_sites_106 rfl (by decide) rfl ?_
              refine G.iload_n X 108 dL_sites_107 rfl rfl ?_
              refine G.aload_n X 109 dL_sites_108 rfl rfl ?_
              refine G.iload X 111 dL_sites_109 rfl rfl ?_
              refine G.bipush X 113 dL_sites_111 rfl (by decide) ?_
              refine GS.site X hO ml_L_23 116 dL_sites_113 rfl (sit_6 (i := i) (by omega)) (by omega) (by decide) (by decide) ⟨Nat.zero_le _, Nat.zero_le _⟩ (Nat.le_of_ble_eq_true rfl) ?_
              refine G.iadd X 117 dL_sites_116 rfl ?_
              refine G.istore_n (ls' := [_, _, _, _, _, _, _, _, _, _, _, _, _]) X 118 dL_sites_117 rfl (by decide) rfl ?_
              refine G.iload X 120 dL_sites_118 rfl rfl ?_
              refine G.aload_n X 121 dL_sites_120 rfl rfl ?_
              refine G.iload X 123 dL_sites_121 rfl rfl ?_
              refine G.bipush X 125 dL_sites_123 rfl (by decide) ?_
              refine GS.site X hO ml_L_23 128 dL_sites_125 rfl (sit_7 (i := i) (by omega)) (by omega) (by decide) (by decide) ⟨Nat.zero_le _, Nat.zero_le _⟩ (Nat.le_of_ble_eq_true rfl) ?_
              refine G.iadd X 129 dL_sites_128 rfl ?_
              refine G.istore (ls' := [_, _, _, _, _, _, _, _, _, _, _, _, _]) X 131 dL_sites_129 rfl (by decide) rfl ?_
              refine G.iload X 133 dL_sites_131 rfl rfl ?_
              refine G.iload X 135 dL_sites_133 rfl rfl ?_
              refine G.if_lt X 142 138 dL_sites_135 (by decide) rfl (by omega) (fun hc135 => ?_) (fun hc135 => by exact absurd hc135 (by decide))
              refine G.iconst X 143 dL_sites_142 rfl ?_
              refine G.iadd X 144 dL_sites_143 rfl ?_
              refine G.istore (ls' := [_, _, _, _, _, _, _, _, _, _, _, _, _]) X 146 dL_sites_144 rfl (by decide) rfl ?_
              refine G.iload X 148 dL_sites_146 rfl rfl ?_
              refine G.iload X 150 dL_sites_148 rfl rfl ?_
              refine G.if_ne X 157 153 dL_sites_150 (by decide) rfl (by omega) (fun hc150 => ?_) (fun hc150 => by exact absurd hc150 (by decide))
              refine G.iconst X 158 dL_sites_157 rfl ?_
              refine G.iadd X 159 dL_sites_158 rfl ?_
              refine G.istore (ls' := [_, _, _, _, _, _, _, _, _, _, _, _, _]) X 161 dL_sites_159 rfl (by decide) rfl ?_
              refine G.aload_n X 162 dL_sites_161 rfl rfl ?_
              refine G.iload X 164 dL_sites_162 rfl rfl ?_
              refine G.bipush X 166 dL_sites_164 rfl (by decide) ?_
              refine GS.site X hO ml_L_23 169 dL_sites_166 rfl (sit_9f (i := i) (by omega) ho) (by omega) (by decide) (by decide) ⟨Nat.zero_le _, Nat.zero_le _⟩ (Nat.le_of_ble_eq_true rfl) ?_
              refine G.iload X 171 dL_sites_169 rfl rfl ?_
              refine G.if_eq X 178 174 dL_sites_171 (by decide) rfl (by omega) (fun hc171 => ?_) (fun hc171 => by exact absurd hc171 (by decide))
              refine G.iconst X 179 dL_sites_178 rfl ?_
              refine G.icmp_ne X 265 182 dL_sites_179 (by decide) rfl (by omega) (by omega) (fun hc179 => by exact absurd hc179 (by decide)) (fun hc179 => ?_)
              refine G.iload X 184 dL_sites_182 rfl rfl ?_
              refine G.if_lt X 228 187 dL_sites_184 (by decide) rfl (by omega) (fun hc184 => ?_) (fun hc184 => by exact absurd hc184 (by decide))
              refine G.aload_n X 229 dL_sites_228 rfl rfl ?_
              refine G.iload X 231 dL_sites_229 rfl rfl ?_
              refine G.bipush X 233 dL_sites_231 rfl (by decide) ?_
              refine GS.site X hO ml_L_23 236 dL_sites_233 rfl (sit_8z (i := i) (by omega) h8) (by omega) (by decide) (by decide) ⟨Nat.zero_le _, Nat.zero_le _⟩ (Nat.le_of_ble_eq_true rfl) ?_
              refine G.bipush X 238 dL_sites_236 rfl (by decide) ?_
              refine G.icmp_ne X 245 241 dL_sites_238 (by decide) rfl (by omega) (by omega) (fun hc238 => by exact absurd hc238 (by decide)) (fun hc238 => ?_)
              refine G.iconst X 242 dL_sites_241 rfl ?_
              refine G.goto X 246 dL_sites_242 (by decide) ?_
              refine G.aload_n X 247 dL_sites_246 rfl rfl ?_
              refine G.iload X 249 dL_sites_247 rfl rfl ?_
              refine G.bipush X 251 dL_sites_249 rfl (by decide) ?_
              refine GS.site X hO ml_L_23 254 dL_sites_251 rfl (sit_6 (i := i) (by omega)) (by omega) (by decide) (by decide) ⟨Nat.zero_le _, Nat.zero_le _⟩ (Nat.le_of_ble_eq_true rfl) ?_
              refine G.if_ne X 261 257 dL_sites_254 (by decide) rfl (by omega) (fun hc254 => by exfalso; omega) (fun hc254 => ?_)
              refine G.iconst X 258 dL_sites_257 rfl ?_
              refine G.goto X 262 dL_sites_258 (by decide) ?_
              refine G.icmp_eq X 267 265 dL_sites_262 (by decide) rfl (by omega) (by omega) (fun hc262 => ?_) (fun hc262 => by exact absurd hc262 (by decide))
              refine G.iload X 269 dL_sites_267 rfl rfl ?_
              refine G.if_eq X 326 272 dL_sites_269 (by decide) rfl (by omega) (fun hc269 => ?_) (fun hc269 => by exact absurd hc269 (by decide))
              refine G.iload X 328 dL_sites_326 rfl rfl ?_
              refine G.bipush X 330 dL_sites_328 rfl (by decide) ?_
              refine G.icmp_eq X 335 333 dL_sites_330 (by decide) rfl (by omega) (by omega) (fun hc330 => ?_) (fun hc330 => by exact absurd hc330 (by decide))
              refine G.iinc (ls' := [_, _, _, _, _, _, _, _, _, _, _, _, _]) X 338 dL_sites_335 rfl rfl (by decide) rfl ?_
              refine G.goto X 25 dL_sites_338 (by decide) ?_
              refine G.drop 9 ?_
              refine G.drop 10 ?_
              refine G.drop 11 ?_
              exact ih (i + 1) _ _ _ _ _ _ M (by omega) (by simp only [sumN_s]; omega) (by simp only [sumN_s]; omega) (by simp only [sumN_s]; omega) (by simp only [sumN_s]; omega) (by simp only [sumN_s]; omega) (by simp only [sumN_s]; omega) hO
            · skip
              refine GS.site X hO ml_L_23 43 dL_sites_40 rfl (sit_2 (i := i) (by omega)) (by omega) (by decide) (by decide) ⟨Nat.zero_le _, Nat.zero_le _⟩ (Nat.le_of_ble_eq_true rfl) ?_
              refine G.iload X 45 dL_sites_43 rfl rfl ?_
              refine G.icmp_gt X 64 48 dL_sites_45 (by decide) rfl (by omega) (by omega) (fun hc45 => by exfalso; omega) (fun hc45 => ?_)
              refine G.iload X 50 dL_sites_48 rfl rfl ?_
              refine G.aload_n X 51 dL_sites_50 rfl rfl ?_
              refine G.iload X 53 dL_sites_51 rfl rfl ?_
              refine G.iconst X 54 dL_sites_53 rfl ?_
              refine GS.site X hO ml_L_23 57 dL_sites_54 rfl (sit_3 (i := i) (by omega)) (by omega) (by decide) (by decide) ⟨Nat.zero_le _, Nat.zero_le _⟩ (Nat.le_of_ble_eq_true rfl) ?_
              refine G.icmp_ge X 64 60 dL_sites_57 (by decide) rfl (by omega) (by omega) (fun hc57 => ?_) (fun hc57 => by exfalso; omega)
              refine G.iconst X 65 dL_sites_64 rfl ?_
              refine G.istore (ls' := [_, _, _, _, _, _, _, _, _, _, _, _, _]) X 67 dL_sites_65 rfl (by decide) rfl ?_
              refine G.aload_n X 68 dL_sites_67 rfl rfl ?_
              refine G.iload X 70 dL_sites_68 rfl rfl ?_
              refine G.iconst X 71 dL_sites_70 rfl ?_
              refine GS.site X hO ml_L_23 74 dL_sites_71 rfl (sit_4z (i := i) (by omega) (by omega)) (by omega) (by decide) (by decide) ⟨Nat.zero_le _, Nat.zero_le _⟩ (Nat.le_of_ble_eq_true rfl) ?_
              refine G.istore (ls' := [_, _, _, _, _, _, _, _, _, _, _, _, _]) X 76 dL_sites_74 rfl (by decide) rfl ?_
              refine G.aload_n X 77 dL_sites_76 rfl rfl ?_
              refine G.iload X 79 dL_sites_77 rfl rfl ?_
              refine GS.why X hO ml_L_26 82 dL_sites_79 rfl (why_c (i := i) (by omega) ho) (by omega) (by decide) ⟨Nat.zero_le _, Nat.zero_le _⟩ (Nat.le_of_ble_eq_true rfl) ?_
              refine G.istore (ls' := [_, _, _, _, _, _, _, _, _, _, _, _, _]) X 84 dL_sites_82 rfl (by decide) rfl ?_
              refine G.iload_n X 85 dL_sites_84 rfl rfl ?_
              refine G.iload X 87 dL_sites_85 rfl rfl ?_
              refine G.if_eq X 94 90 dL_sites_87 (by decide) rfl (by omega) (fun hc87 => ?_) (fun hc87 => by exact absurd hc87 (by decide))
              refine G.iconst X 95 dL_sites_94 rfl ?_
              refine G.iadd X 96 dL_sites_95 rfl ?_
              refine G.istore_n (ls' := [_, _, _, _, _, _, _, _, _, _, _, _, _]) X 97 dL_sites_96 rfl (by decide) rfl ?_
              refine G.iload_n X 98 dL_sites_97 rfl rfl ?_
              refine G.aload_n X 99 dL_sites_98 rfl rfl ?_
              refine G.iload X 101 dL_sites_99 rfl rfl ?_
              refine G.iconst X 102 dL_sites_101 rfl ?_
              refine GS.site X hO ml_L_23 105 dL_sites_102 rfl (sit_5 (i := i) (by omega)) (by omega) (by decide) (by decide) ⟨Nat.zero_le _, Nat.zero_le _⟩ (Nat.le_of_ble_eq_true rfl) ?_
              refine G.iadd X 106 dL_sites_105 rfl ?_
              refine G.istore_n (ls' := [_, _, _, _, _, _, _, _, _, _, _, _, _]) X 107 dL_sites_106 rfl (by decide) rfl ?_
              refine G.iload_n X 108 dL_sites_107 rfl rfl ?_
              refine G.aload_n X 109 dL_sites_108 rfl rfl ?_
              refine G.iload X 111 dL_sites_109 rfl rfl ?_
              refine G.bipush X 113 dL_sites_111 rfl (by decide) ?_
              refine GS.site X hO ml_L_23 116 dL_sites_113 rfl (sit_6 (i := i) (by omega)) (by omega) (by decide) (by decide) ⟨Nat.zero_le _, Nat.zero_le _⟩ (Nat.le_of_ble_eq_true rfl) ?_
              refine G.iadd X 117 dL_sites_116 rfl ?_
              refine G.istore_n (ls' := [_, _, _, _, _, _, _, _, _, _, _, _, _]) X 118 dL_sites_117 rfl (by decide) rfl ?_
              refine G.iload X 120 dL_sites_118 rfl rfl ?_
              refine G.aload_n X 121 dL_sites_120 rfl rfl ?_
              refine G.iload X 123 dL_sites_121 rfl rfl ?_
              refine G.bipush X 125 dL_sites_123 rfl (by decide) ?_
              refine GS.site X hO ml_L_23 128 dL_sites_125 rfl (sit_7 (i := i) (by omega)) (by omega) (by decide) (by decide) ⟨Nat.zero_le _, Nat.zero_le _⟩ (Nat.le_of_ble_eq_true rfl) ?_
              refine G.iadd X 129 dL_sites_128 rfl ?_
              refine G.istore (ls' := [_, _, _, _, _, _, _, _, _, _, _, _, _]) X 131 dL_sites_129 rfl (by decide) rfl ?_
              refine G.iload X 133 dL_sites_131 rfl rfl ?_
              refine G.iload X 135 dL_sites_133 rfl rfl ?_
              refine G.if_lt X 142 138 dL_sites_135 (by decide) rfl (by omega) (fun hc135 => ?_) (fun hc135 => by exact absurd hc135 (by decide))
              refine G.iconst X 143 dL_sites_142 rfl ?_
              refine G.iadd X 144 dL_sites_143 rfl ?_
              refine G.istore (ls' := [_, _, _, _, _, _, _, _, _, _, _, _, _]) X 146 dL_sites_144 rfl (by decide) rfl ?_
              refine G.iload X 148 dL_sites_146 rfl rfl ?_
              refine G.iload X 150 dL_sites_148 rfl rfl ?_
              refine G.if_ne X 157 153 dL_sites_150 (by decide) rfl (by omega) (fun hc150 => ?_) (fun hc150 => by exact absurd hc150 (by decide))
              refine G.iconst X 158 dL_sites_157 rfl ?_
              refine G.iadd X 159 dL_sites_158 rfl ?_
              refine G.istore (ls' := [_, _, _, _, _, _, _, _, _, _, _, _, _]) X 161 dL_sites_159 rfl (by decide) rfl ?_
              refine G.aload_n X 162 dL_sites_161 rfl rfl ?_
              refine G.iload X 164 dL_sites_162 rfl rfl ?_
              refine G.bipush X 166 dL_sites_164 rfl (by decide) ?_
              refine GS.site X hO ml_L_23 169 dL_sites_166 rfl (sit_9f (i := i) (by omega) ho) (by omega) (by decide) (by decide) ⟨Nat.zero_le _, Nat.zero_le _⟩ (Nat.le_of_ble_eq_true rfl) ?_
              refine G.iload X 171 dL_sites_169 rfl rfl ?_
              refine G.if_eq X 178 174 dL_sites_171 (by decide) rfl (by omega) (fun hc171 => ?_) (fun hc171 => by exact absurd hc171 (by decide))
              refine G.iconst X 179 dL_sites_178 rfl ?_
              refine G.icmp_ne X 265 182 dL_sites_179 (by decide) rfl (by omega) (by omega) (fun hc179 => by exact absurd hc179 (by decide)) (fun hc179 => ?_)
              refine G.iload X 184 dL_sites_182 rfl rfl ?_
              refine G.if_lt X 228 187 dL_sites_184 (by decide) rfl (by omega) (fun hc184 => ?_) (fun hc184 => by exact absurd hc184 (by decide))
              refine G.aload_n X 229 dL_sites_228 rfl rfl ?_
              refine G.iload X 231 dL_sites_229 rfl rfl ?_
              refine G.bipush X 233 dL_sites_231 rfl (by decide) ?_
              refine GS.site X hO ml_L_23 236 dL_sites_233 rfl (sit_8z (i := i) (by omega) h8) (by omega) (by decide) (by decide) ⟨Nat.zero_le _, Nat.zero_le _⟩ (Nat.le_of_ble_eq_true rfl) ?_
              refine G.bipush X 238 dL_sites_236 rfl (by decide) ?_
              refine G.icmp_ne X 245 241 dL_sites_238 (by decide) rfl (by omega) (by omega) (fun hc238 => by exact absurd hc238 (by decide)) (fun hc238 => ?_)
              refine G.iconst X 242 dL_sites_241 rfl ?_
              refine G.goto X 246 dL_sites_242 (by decide) ?_
              refine G.aload_n X 247 dL_sites_246 rfl rfl ?_
              refine G.iload X 249 dL_sites_247 rfl rfl ?_
              refine G.bipush X 251 dL_sites_249 rfl (by decide) ?_
              refine GS.site X hO ml_L_23 254 dL_sites_251 rfl (sit_6 (i := i) (by omega)) (by omega) (by decide) (by decide) ⟨Nat.zero_le _, Nat.zero_le _⟩ (Nat.le_of_ble_eq_true rfl) ?_
              refine G.if_ne X 261 257 dL_sites_254 (by decide) rfl (by omega) (fun hc254 => by exfalso; omega) (fun hc254 => ?_)
              refine G.iconst X 258 dL_sites_257 rfl ?_
              refine G.goto X 262 dL_sites_258 (by decide) ?_
              refine G.icmp_eq X 267 265 dL_sites_262 (by decide) rfl (by omega) (by omega) (fun hc262 => ?_) (fun hc262 => by exact absurd hc262 (by decide))
              refine G.iload X 269 dL_sites_267 rfl rfl ?_
              refine G.if_eq X 326 272 dL_sites_269 (by decide) rfl (by omega) (fun hc269 => ?_) (fun hc269 => by exact absurd hc269 (by decide))
              refine G.iload X 328 dL_sites_326 rfl rfl ?_
              refine G.bipush X 330 dL_sites_328 rfl (by decide) ?_
              refine G.icmp_eq X 335 333 dL_sites_330 (by decide) rfl (by omega) (by omega) (fun hc330 => ?_) (fun hc330 => by exact absurd hc330 (by decide))
              refine G.iinc (ls' := [_, _, _, _, _, _, _, _, _, _, _, _, _]) X 338 dL_sites_335 rfl rfl (by decide) rfl ?_
              refine G.goto X 25 dL_sites_338 (by decide) ?_
              refine G.drop 9 ?_
              refine G.drop 10 ?_
              refine G.drop 11 ?_
              exact ih (i + 1) _ _ _ _ _ _ M (by omega) (by simp only [sumN_s]; omega) (by simp only [sumN_s]; omega) (by simp only [sumN_s]; omega) (by simp only [sumN_s]; omega) (by simp only [sumN_s]; omega) (by simp only [sumN_s]; omega) hO
          · have h6 : ¬ fC r i 6 = 0 := fun g => h8 (j8.mpr g)
            refine G.iconst X 40 dL_sites_39 rfl ?_
            have hba : r 0 < fC r i 2 ∨ ¬ r 0 < fC r i 2 ∧ fC r i 3 ≤ r 0 := by omega
            rcases hba with hb | hb
            · skip
              refine GS.site X hO ml_L_23 43 dL_sites_40 rfl (sit_2 (i := i) (by omega)) (by omega) (by decide) (by decide) ⟨Nat.zero_le _, Nat.zero_le _⟩ (Nat.le_of_ble_eq_true rfl) ?_
              refine G.iload X 45 dL_sites_43 rfl rfl ?_
              refine G.icmp_gt X 64 48 dL_sites_45 (by decide) rfl (by omega) (by omega) (fun hc45 => ?_) (fun hc45 => by exfalso; omega)
              refine G.iconst X 65 dL_sites_64 rfl ?_
              refine G.istore (ls' := [_, _, _, _, _, _, _, _, _, _, _, _, _]) X 67 dL_sites_65 rfl (by decide) rfl ?_
              refine G.aload_n X 68 dL_sites_67 rfl rfl ?_
              refine G.iload X 70 dL_sites_68 rfl rfl ?_
              refine G.iconst X 71 dL_sites_70 rfl ?_
              refine GS.site X hO ml_L_23 74 dL_sites_71 rfl (sit_4z (i := i) (by omega) (by omega)) (by omega) (by decide) (by decide) ⟨Nat.zero_le _, Nat.zero_le _⟩ (Nat.le_of_ble_eq_true rfl) ?_
              refine G.istore (ls' := [_, _, _, _, _, _, _, _, _, _, _, _, _]) X 76 dL_sites_74 rfl (by decide) rfl ?_
              refine G.aload_n X 77 dL_sites_76 rfl rfl ?_
              refine G.iload X 79 dL_sites_77 rfl rfl ?_
              refine GS.why X hO ml_L_26 82 dL_sites_79 rfl (why_c (i := i) (by omega) ho) (by omega) (by decide) ⟨Nat.zero_le _, Nat.zero_le _⟩ (Nat.le_of_ble_eq_true rfl) ?_
              refine G.istore (ls' := [_, _, _, _, _, _, _, _, _, _, _, _, _]) X 84 dL_sites_82 rfl (by decide) rfl ?_
              refine G.iload_n X 85 dL_sites_84 rfl rfl ?_
              refine G.iload X 87 dL_sites_85 rfl rfl ?_
              refine G.if_eq X 94 90 dL_sites_87 (by decide) rfl (by omega) (fun hc87 => ?_) (fun hc87 => by exact absurd hc87 (by decide))
              refine G.iconst X 95 dL_sites_94 rfl ?_
              refine G.iadd X 96 dL_sites_95 rfl ?_
              refine G.istore_n (ls' := [_, _, _, _, _, _, _, _, _, _, _, _, _]) X 97 dL_sites_96 rfl (by decide) rfl ?_
              refine G.iload_n X 98 dL_sites_97 rfl rfl ?_
              refine G.aload_n X 99 dL_sites_98 rfl rfl ?_
              refine G.iload X 101 dL_sites_99 rfl rfl ?_
              refine G.iconst X 102 dL_sites_101 rfl ?_
              refine GS.site X hO ml_L_23 105 dL_sites_102 rfl (sit_5 (i := i) (by omega)) (by omega) (by decide) (by decide) ⟨Nat.zero_le _, Nat.zero_le _⟩ (Nat.le_of_ble_eq_true rfl) ?_
              refine G.iadd X 106 dL_sites_105 rfl ?_
              refine G.istore_n (ls' := [_, _, _, _, _, _, _, _, _, _, _, _, _]) X 107 dL_sites_106 rfl (by decide) rfl ?_
              refine G.iload_n X 108 dL_sites_107 rfl rfl ?_
              refine G.aload_n X 109 dL_sites_108 rfl rfl ?_
              refine G.iload X 111 dL_sites_109 rfl rfl ?_
              refine G.bipush X 113 dL_sites_111 rfl (by decide) ?_
              refine GS.site X hO ml_L_23 116 dL_sites_113 rfl (sit_6 (i := i) (by omega)) (by omega) (by decide) (by decide) ⟨Nat.zero_le _, Nat.zero_le _⟩ (Nat.le_of_ble_eq_true rfl) ?_
              refine G.iadd X 117 dL_sites_116 rfl ?_
              refine G.istore_n (ls' := [_, _, _, _, _, _, _, _, _, _, _, _, _]) X 118 dL_sites_117 rfl (by decide) rfl ?_
              refine G.iload X 120 dL_sites_118 rfl rfl ?_
              refine G.aload_n X 121 dL_sites_120 rfl rfl ?_
              refine G.iload X 123 dL_sites_121 rfl rfl ?_
              refine G.bipush X 125 dL_sites_123 rfl (by decide) ?_
              refine GS.site X hO ml_L_23 128 dL_sites_125 rfl (sit_7 (i := i) (by omega)) (by omega) (by decide) (by decide) ⟨Nat.zero_le _, Nat.zero_le _⟩ (Nat.le_of_ble_eq_true rfl) ?_
              refine G.iadd X 129 dL_sites_128 rfl ?_
              refine G.istore (ls' := [_, _, _, _, _, _, _, _, _, _, _, _, _]) X 131 dL_sites_129 rfl (by decide) rfl ?_
              refine G.iload X 133 dL_sites_131 rfl rfl ?_
              refine G.iload X 135 dL_sites_133 rfl rfl ?_
              refine G.if_lt X 142 138 dL_sites_135 (by decide) rfl (by omega) (fun hc135 => ?_) (fun hc135 => by exact absurd hc135 (by decide))
              refine G.iconst X 143 dL_sites_142 rfl ?_
              refine G.iadd X 144 dL_sites_143 rfl ?_
              refine G.istore (ls' := [_, _, _, _, _, _, _, _, _, _, _, _, _]) X 146 dL_sites_144 rfl (by decide) rfl ?_
              refine G.iload X 148 dL_sites_146 rfl rfl ?_
              refine G.iload X 150 dL_sites_148 rfl rfl ?_
              refine G.if_ne X 157 153 dL_sites_150 (by decide) rfl (by omega) (fun hc150 => ?_) (fun hc150 => by exact absurd hc150 (by decide))
              refine G.iconst X 158 dL_sites_157 rfl ?_
              refine G.iadd X 159 dL_sites_158 rfl ?_
              refine G.istore (ls' := [_, _, _, _, _, _, _, _, _, _, _, _, _]) X 161 dL_sites_159 rfl (by decide) rfl ?_
              refine G.aload_n X 162 dL_sites_161 rfl rfl ?_
              refine G.iload X 164 dL_sites_162 rfl rfl ?_
              refine G.bipush X 166 dL_sites_164 rfl (by decide) ?_
              refine GS.site X hO ml_L_23 169 dL_sites_166 rfl (sit_9f (i := i) (by omega) ho) (by omega) (by decide) (by decide) ⟨Nat.zero_le _, Nat.zero_le _⟩ (Nat.le_of_ble_eq_true rfl) ?_
              refine G.iload X 171 dL_sites_169 rfl rfl ?_
              refine G.if_eq X 178 174 dL_sites_171 (by decide) rfl (by omega) (fun hc171 => ?_) (fun hc171 => by exact absurd hc171 (by decide))
              refine G.iconst X 179 dL_sites_178 rfl ?_
              refine G.icmp_ne X 265 182 dL_sites_179 (by decide) rfl (by omega) (by omega) (fun hc179 => by exact absurd hc179 (by decide)) (fun hc179 => ?_)
              refine G.iload X 184 dL_sites_182 rfl rfl ?_
              refine G.if_lt X 228 187 dL_sites_184 (by decide) rfl (by omega) (fun hc184 => ?_) (fun hc184 => by exact absurd hc184 (by decide))
              refine G.aload_n X 229 dL_sites_228 rfl rfl ?_
              refine G.iload X 231 dL_sites_229 rfl rfl ?_
              refine G.bipush X 233 dL_sites_231 rfl (by decide) ?_
              refine GS.site X hO ml_L_23 236 dL_sites_233 rfl (sit_8p (i := i) (by omega) h8) (by omega) (by decide) (by decide) ⟨Nat.zero_le _, Nat.zero_le _⟩ (Nat.le_of_ble_eq_true rfl) ?_
              refine G.bipush X 238 dL_sites_236 rfl (by decide) ?_
              refine G.icmp_ne X 245 241 dL_sites_238 (by decide) rfl (by omega) (by omega) (fun hc238 => ?_) (fun hc238 => by exfalso; omega)
              refine G.iconst X 246 dL_sites_245 rfl ?_
              refine G.aload_n X 247 dL_sites_246 rfl rfl ?_
              refine G.iload X 249 dL_sites_247 rfl rfl ?_
              refine G.bipush X 251 dL_sites_249 rfl (by decide) ?_
              refine GS.site X hO ml_L_23 254 dL_sites_251 rfl (sit_6 (i := i) (by omega)) (by omega) (by decide) (by decide) ⟨Nat.zero_le _, Nat.zero_le _⟩ (Nat.le_of_ble_eq_true rfl) ?_
              refine G.if_ne X 261 257 dL_sites_254 (by decide) rfl (by omega) (fun hc254 => ?_) (fun hc254 => by exfalso; omega)
              refine G.iconst X 262 dL_sites_261 rfl ?_
              refine G.icmp_eq X 267 265 dL_sites_262 (by decide) rfl (by omega) (by omega) (fun hc262 => ?_) (fun hc262 => by exact absurd hc262 (by decide))
              refine G.iload X 269 dL_sites_267 rfl rfl ?_
              refine G.if_eq X 326 272 dL_sites_269 (by decide) rfl (by omega) (fun hc269 => ?_) (fun hc269 => by exact absurd hc269 (by decide))
              refine G.iload X 328 dL_sites_326 rfl rfl ?_
              refine G.bipush X 330 dL_sites_328 rfl (by decide) ?_
              refine G.icmp_eq X 335 333 dL_sites_330 (by decide) rfl (by omega) (by omega) (fun hc330 => ?_) (fun hc330 => by exact absurd hc330 (by decide))
              refine G.iinc (ls' := [_, _, _, _, _, _, _, _, _, _, _, _, _]) X 338 dL_sites_335 rfl rfl (by decide) rfl ?_
              refine G.goto X 25 dL_sites_338 (by decide) ?_
              refine G.drop 9 ?_
              refine G.drop 10 ?_
              refine G.drop 11 ?_
              exact ih (i + 1) _ _ _ _ _ _ M (by omega) (by simp only [sumN_s]; omega) (by simp only [sumN_s]; omega) (by simp only [sumN_s]; omega) (by simp only [sumN_s]; omega) (by simp only [sumN_s]; omega) (by simp only [sumN_s]; omega) hO
            · skip
              refine GS.site X hO ml_L_23 43 dL_sites_40 rfl (sit_2 (i := i) (by omega)) (by omega) (by decide) (by decide) ⟨Nat.zero_le _, Nat.zero_le _⟩ (Nat.le_of_ble_eq_true rfl) ?_
              refine G.iload X 45 dL_sites_43 rfl rfl ?_
              refine G.icmp_gt X 64 48 dL_sites_45 (by decide) rfl (by omega) (by omega) (fun hc45 => by exfalso; omega) (fun hc45 => ?_)
              refine G.iload X 50 dL_sites_48 rfl rfl ?_
              refine G.aload_n X 51 dL_sites_50 rfl rfl ?_
              refine G.iload X 53 dL_sites_51 rfl rfl ?_
              refine G.iconst X 54 dL_sites_53 rfl ?_
              refine GS.site X hO ml_L_23 57 dL_sites_54 rfl (sit_3 (i := i) (by omega)) (by omega) (by decide) (by decide) ⟨Nat.zero_le _, Nat.zero_le _⟩ (Nat.le_of_ble_eq_true rfl) ?_
              refine G.icmp_ge X 64 60 dL_sites_57 (by decide) rfl (by omega) (by omega) (fun hc57 => ?_) (fun hc57 => by exfalso; omega)
              refine G.iconst X 65 dL_sites_64 rfl ?_
              refine G.istore (ls' := [_, _, _, _, _, _, _, _, _, _, _, _, _]) X 67 dL_sites_65 rfl (by decide) rfl ?_
              refine G.aload_n X 68 dL_sites_67 rfl rfl ?_
              refine G.iload X 70 dL_sites_68 rfl rfl ?_
              refine G.iconst X 71 dL_sites_70 rfl ?_
              refine GS.site X hO ml_L_23 74 dL_sites_71 rfl (sit_4z (i := i) (by omega) (by omega)) (by omega) (by decide) (by decide) ⟨Nat.zero_le _, Nat.zero_le _⟩ (Nat.le_of_ble_eq_true rfl) ?_
              refine G.istore (ls' := [_, _, _, _, _, _, _, _, _, _, _, _, _]) X 76 dL_sites_74 rfl (by decide) rfl ?_
              refine G.aload_n X 77 dL_sites_76 rfl rfl ?_
              refine G.iload X 79 dL_sites_77 rfl rfl ?_
              refine GS.why X hO ml_L_26 82 dL_sites_79 rfl (why_c (i := i) (by omega) ho) (by omega) (by decide) ⟨Nat.zero_le _, Nat.zero_le _⟩ (Nat.le_of_ble_eq_true rfl) ?_
              refine G.istore (ls' := [_, _, _, _, _, _, _, _, _, _, _, _, _]) X 84 dL_sites_82 rfl (by decide) rfl ?_
              refine G.iload_n X 85 dL_sites_84 rfl rfl ?_
              refine G.iload X 87 dL_sites_85 rfl rfl ?_
              refine G.if_eq X 94 90 dL_sites_87 (by decide) rfl (by omega) (fun hc87 => ?_) (fun hc87 => by exact absurd hc87 (by decide))
              refine G.iconst X 95 dL_sites_94 rfl ?_
              refine G.iadd X 96 dL_sites_95 rfl ?_
              refine G.istore_n (ls' := [_, _, _, _, _, _, _, _, _, _, _, _, _]) X 97 dL_sites_96 rfl (by decide) rfl ?_
              refine G.iload_n X 98 dL_sites_97 rfl rfl ?_
              refine G.aload_n X 99 dL_sites_98 rfl rfl ?_
              refine G.iload X 101 dL_sites_99 rfl rfl ?_
              refine G.iconst X 102 dL_sites_101 rfl ?_
              refine GS.site X hO ml_L_23 105 dL_sites_102 rfl (sit_5 (i := i) (by omega)) (by omega) (by decide) (by decide) ⟨Nat.zero_le _, Nat.zero_le _⟩ (Nat.le_of_ble_eq_true rfl) ?_
              refine G.iadd X 106 dL_sites_105 rfl ?_
              refine G.istore_n (ls' := [_, _, _, _, _, _, _, _, _, _, _, _, _]) X 107 dL_sites_106 rfl (by decide) rfl ?_
              refine G.iload_n X 108 dL_sites_107 rfl rfl ?_
              refine G.aload_n X 109 dL_sites_108 rfl rfl ?_
              refine G.iload X 111 dL_sites_109 rfl rfl ?_
              refine G.bipush X 113 dL_sites_111 rfl (by decide) ?_
              refine GS.site X hO ml_L_23 116 dL_sites_113 rfl (sit_6 (i := i) (by omega)) (by omega) (by decide) (by decide) ⟨Nat.zero_le _, Nat.zero_le _⟩ (Nat.le_of_ble_eq_true rfl) ?_
              refine G.iadd X 117 dL_sites_116 rfl ?_
              refine G.istore_n (ls' := [_, _, _, _, _, _, _, _, _, _, _, _, _]) X 118 dL_sites_117 rfl (by decide) rfl ?_
              refine G.iload X 120 dL_sites_118 rfl rfl ?_
              refine G.aload_n X 121 dL_sites_120 rfl rfl ?_
              refine G.iload X 123 dL_sites_121 rfl rfl ?_
              refine G.bipush X 125 dL_sites_123 rfl (by decide) ?_
              refine GS.site X hO ml_L_23 128 dL_sites_125 rfl (sit_7 (i := i) (by omega)) (by omega) (by decide) (by decide) ⟨Nat.zero_le _, Nat.zero_le _⟩ (Nat.le_of_ble_eq_true rfl) ?_
              refine G.iadd X 129 dL_sites_128 rfl ?_
              refine G.istore (ls' := [_, _, _, _, _, _, _, _, _, _, _, _, _]) X 131 dL_sites_129 rfl (by decide) rfl ?_
              refine G.iload X 133 dL_sites_131 rfl rfl ?_
              refine G.iload X 135 dL_sites_133 rfl rfl ?_
              refine G.if_lt X 142 138 dL_sites_135 (by decide) rfl (by omega) (fun hc135 => ?_) (fun hc135 => by exact absurd hc135 (by decide))
              refine G.iconst X 143 dL_sites_142 rfl ?_
              refine G.iadd X 144 dL_sites_143 rfl ?_
              refine G.istore (ls' := [_, _, _, _, _, _, _, _, _, _, _, _, _]) X 146 dL_sites_144 rfl (by decide) rfl ?_
              refine G.iload X 148 dL_sites_146 rfl rfl ?_
              refine G.iload X 150 dL_sites_148 rfl rfl ?_
              refine G.if_ne X 157 153 dL_sites_150 (by decide) rfl (by omega) (fun hc150 => ?_) (fun hc150 => by exact absurd hc150 (by decide))
              refine G.iconst X 158 dL_sites_157 rfl ?_
              refine G.iadd X 159 dL_sites_158 rfl ?_
              refine G.istore (ls' := [_, _, _, _, _, _, _, _, _, _, _, _, _]) X 161 dL_sites_159 rfl (by decide) rfl ?_
              refine G.aload_n X 162 dL_sites_161 rfl rfl ?_
              refine G.iload X 164 dL_sites_162 rfl rfl ?_
              refine G.bipush X 166 dL_sites_164 rfl (by decide) ?_
              refine GS.site X hO ml_L_23 169 dL_sites_166 rfl (sit_9f (i := i) (by omega) ho) (by omega) (by decide) (by decide) ⟨Nat.zero_le _, Nat.zero_le _⟩ (Nat.le_of_ble_eq_true rfl) ?_
              refine G.iload X 171 dL_sites_169 rfl rfl ?_
              refine G.if_eq X 178 174 dL_sites_171 (by decide) rfl (by omega) (fun hc171 => ?_) (fun hc171 => by exact absurd hc171 (by decide))
              refine G.iconst X 179 dL_sites_178 rfl ?_
              refine G.icmp_ne X 265 182 dL_sites_179 (by decide) rfl (by omega) (by omega) (fun hc179 => by exact absurd hc179 (by decide)) (fun hc179 => ?_)
              refine G.iload X 184 dL_sites_182 rfl rfl ?_
              refine G.if_lt X 228 187 dL_sites_184 (by decide) rfl (by omega) (fun hc184 => ?_) (fun hc184 => by exact absurd hc184 (by decide))
              refine G.aload_n X 229 dL_sites_228 rfl rfl ?_
              refine G.iload X 231 dL_sites_229 rfl rfl ?_
              refine G.bipush X 233 dL_sites_231 rfl (by decide) ?_
              refine GS.site X hO ml_L_23 236 dL_sites_233 rfl (sit_8p (i := i) (by omega) h8) (by omega) (by decide) (by decide) ⟨Nat.zero_le _, Nat.zero_le _⟩ (Nat.le_of_ble_eq_true rfl) ?_
              refine G.bipush X 238 dL_sites_236 rfl (by decide) ?_
              refine G.icmp_ne X 245 241 dL_sites_238 (by decide) rfl (by omega) (by omega) (fun hc238 => ?_) (fun hc238 => by exfalso; omega)
              refine G.iconst X 246 dL_sites_245 rfl ?_
              refine G.aload_n X 247 dL_sites_246 rfl rfl ?_
              refine G.iload X 249 dL_sites_247 rfl rfl ?_
              refine G.bipush X 251 dL_sites_249 rfl (by decide) ?_
              refine GS.site X hO ml_L_23 254 dL_sites_251 rfl (sit_6 (i := i) (by omega)) (by omega) (by decide) (by decide) ⟨Nat.zero_le _, Nat.zero_le _⟩ (Nat.le_of_ble_eq_true rfl) ?_
              refine G.if_ne X 261 257 dL_sites_254 (by decide) rfl (by omega) (fun hc254 => ?_) (fun hc254 => by exfalso; omega)
              refine G.iconst X 262 dL_sites_261 rfl ?_
              refine G.icmp_eq X 267 265 dL_sites_262 (by decide) rfl (by omega) (by omega) (fun hc262 => ?_) (fun hc262 => by exact absurd hc262 (by decide))
              refine G.iload X 269 dL_sites_267 rfl rfl ?_
              refine G.if_eq X 326 272 dL_sites_269 (by decide) rfl (by omega) (fun hc269 => ?_) (fun hc269 => by exact absurd hc269 (by decide))
              refine G.iload X 328 dL_sites_326 rfl rfl ?_
              refine G.bipush X 330 dL_sites_328 rfl (by decide) ?_
              refine G.icmp_eq X 335 333 dL_sites_330 (by decide) rfl (by omega) (by omega) (fun hc330 => ?_) (fun hc330 => by exact absurd hc330 (by decide))
              refine G.iinc (ls' := [_, _, _, _, _, _, _, _, _, _, _, _, _]) X 338 dL_sites_335 rfl rfl (by decide) rfl ?_
              refine G.goto X 25 dL_sites_338 (by decide) ?_
              refine G.drop 9 ?_
              refine G.drop 10 ?_
              refine G.drop 11 ?_
              exact ih (i + 1) _ _ _ _ _ _ M (by omega) (by simp only [sumN_s]; omega) (by simp only [sumN_s]; omega) (by simp only [sumN_s]; omega) (by simp only [sumN_s]; omega) (by simp only [sumN_s]; omega) (by simp only [sumN_s]; omega) hO
        · have g5 := (hJ.2.2.1 m i hi e4).1
          have g1 := (hJ.2.2.1 m i hi e4).2.1
          have g3 : r 0 < fC r i 3 := (hJ.2.2.1 m i hi e4).2.2
          have ex : owI r i = 1 := if_pos (by omega)
          have vm := hV.2.1 m hm
          unfold Vset at vm
          refine G.iload X 39 dL_sites_37 rfl rfl ?_
          have j8 := hJ.2.2.2.1 i hi
          by_cases h8 : fC r i 8 = 0
          · have h6 := j8.mp h8
            refine G.iconst X 40 dL_sites_39 rfl ?_
            refine GS.site X hO ml_L_23 43 dL_sites_40 rfl (sit_2 (i := i) (by omega)) (by omega) (by decide) (by decide) ⟨Nat.zero_le _, Nat.zero_le _⟩ (Nat.le_of_ble_eq_true rfl) ?_
            refine G.iload X 45 dL_sites_43 rfl rfl ?_
            refine G.icmp_gt X 64 48 dL_sites_45 (by decide) rfl (by omega) (by omega) (fun hc45 => ?_) (fun hc45 => by exfalso; omega)
            refine G.iconst X 65 dL_sites_64 rfl ?_
            refine G.istore (ls' := [_, _, _, _, _, _, _, _, _, _, _, _, _]) X 67 dL_sites_65 rfl (by decide) rfl ?_
            refine G.aload_n X 68 dL_sites_67 rfl rfl ?_
            refine G.iload X 70 dL_sites_68 rfl rfl ?_
            refine G.iconst X 71 dL_sites_70 rfl ?_
            refine GS.site X hO ml_L_23 74 dL_sites_71 rfl (sit_4p (i := i) (j := m) (by omega) (by omega)) (by omega) (by decide) (by decide) ⟨Nat.zero_le _, Nat.zero_le _⟩ (Nat.le_of_ble_eq_true rfl) ?_
            refine G.istore (ls' := [_, _, _, _, _, _, _, _, _, _, _, _, _]) X 76 dL_sites_74 rfl (by decide) rfl ?_
            refine G.aload_n X 77 dL_sites_76 rfl rfl ?_
            refine G.iload X 79 dL_sites_77 rfl rfl ?_
            refine GS.why X hO ml_L_26 82 dL_sites_79 rfl (why_c (i := i) (by omega) ho) (by omega) (by decide) ⟨Nat.zero_le _, Nat.zero_le _⟩ (Nat.le_of_ble_eq_true rfl) ?_
            refine G.istore (ls' := [_, _, _, _, _, _, _, _, _, _, _, _, _]) X 84 dL_sites_82 rfl (by decide) rfl ?_
            refine G.iload_n X 85 dL_sites_84 rfl rfl ?_
            refine G.iload X 87 dL_sites_85 rfl rfl ?_
            refine G.if_eq X 94 90 dL_sites_87 (by decide) rfl (by omega) (fun hc87 => ?_) (fun hc87 => by exact absurd hc87 (by decide))
            refine G.iconst X 95 dL_sites_94 rfl ?_
            refine G.iadd X 96 dL_sites_95 rfl ?_
            refine G.istore_n (ls' := [_, _, _, _, _, _, _, _, _, _, _, _, _]) X 97 dL_sites_96 rfl (by decide) rfl ?_
            refine G.iload_n X 98 dL_sites_97 rfl rfl ?_
            refine G.aload_n X 99 dL_sites_98 rfl rfl ?_
            refine G.iload X 101 dL_sites_99 rfl rfl ?_
            refine G.iconst X 102 dL_sites_101 rfl ?_
            refine GS.site X hO ml_L_23 105 dL_sites_102 rfl (sit_5 (i := i) (by omega)) (by omega) (by decide) (by decide) ⟨Nat.zero_le _, Nat.zero_le _⟩ (Nat.le_of_ble_eq_true rfl) ?_
            refine G.iadd X 106 dL_sites_105 rfl ?_
            refine G.istore_n (ls' := [_, _, _, _, _, _, _, _, _, _, _, _, _]) X 107 dL_sites_106 rfl (by decide) rfl ?_
            refine G.iload_n X 108 dL_sites_107 rfl rfl ?_
            refine G.aload_n X 109 dL_sites_108 rfl rfl ?_
            refine G.iload X 111 dL_sites_109 rfl rfl ?_
            refine G.bipush X 113 dL_sites_111 rfl (by decide) ?_
            refine GS.site X hO ml_L_23 116 dL_sites_113 rfl (sit_6 (i := i) (by omega)) (by omega) (by decide) (by decide) ⟨Nat.zero_le _, Nat.zero_le _⟩ (Nat.le_of_ble_eq_true rfl) ?_
            refine G.iadd X 117 dL_sites_116 rfl ?_
            refine G.istore_n (ls' := [_, _, _, _, _, _, _, _, _, _, _, _, _]) X 118 dL_sites_117 rfl (by decide) rfl ?_
            refine G.iload X 120 dL_sites_118 rfl rfl ?_
            refine G.aload_n X 121 dL_sites_120 rfl rfl ?_
            refine G.iload X 123 dL_sites_121 rfl rfl ?_
            refine G.bipush X 125 dL_sites_123 rfl (by decide) ?_
            refine GS.site X hO ml_L_23 128 dL_sites_125 rfl (sit_7 (i := i) (by omega)) (by omega) (by decide) (by decide) ⟨Nat.zero_le _, Nat.zero_le _⟩ (Nat.le_of_ble_eq_true rfl) ?_
            refine G.iadd X 129 dL_sites_128 rfl ?_
            refine G.istore (ls' := [_, _, _, _, _, _, _, _, _, _, _, _, _]) X 131 dL_sites_129 rfl (by decide) rfl ?_
            refine G.iload X 133 dL_sites_131 rfl rfl ?_
            refine G.iload X 135 dL_sites_133 rfl rfl ?_
            refine G.if_lt X 142 138 dL_sites_135 (by decide) rfl (by omega) (fun hc135 => by omega) (fun hc135 => ?_)
            refine G.iconst X 139 dL_sites_138 rfl ?_
            refine G.goto X 143 dL_sites_139 (by decide) ?_
            refine G.iadd X 144 dL_sites_143 rfl ?_
            refine G.istore (ls' := [_, _, _, _, _, _, _, _, _, _, _, _, _]) X 146 dL_sites_144 rfl (by decide) rfl ?_
            refine G.iload X 148 dL_sites_146 rfl rfl ?_
            refine G.iload X 150 dL_sites_148 rfl rfl ?_
            refine G.if_ne X 157 153 dL_sites_150 (by decide) rfl (by omega) (fun hc150 => ?_) (fun hc150 => by exact absurd hc150 (by decide))
            refine G.iconst X 158 dL_sites_157 rfl ?_
            refine G.iadd X 159 dL_sites_158 rfl ?_
            refine G.istore (ls' := [_, _, _, _, _, _, _, _, _, _, _, _, _]) X 161 dL_sites_159 rfl (by decide) rfl ?_
            refine G.aload_n X 162 dL_sites_161 rfl rfl ?_
            refine G.iload X 164 dL_sites_162 rfl rfl ?_
            refine G.bipush X 166 dL_sites_164 rfl (by decide) ?_
            refine GS.site X hO ml_L_23 169 dL_sites_166 rfl (sit_9f (i := i) (by omega) ho) (by omega) (by decide) (by decide) ⟨Nat.zero_le _, Nat.zero_le _⟩ (Nat.le_of_ble_eq_true rfl) ?_
            refine G.iload X 171 dL_sites_169 rfl rfl ?_
            refine G.if_eq X 178 174 dL_sites_171 (by decide) rfl (by omega) (fun hc171 => ?_) (fun hc171 => by exact absurd hc171 (by decide))
            refine G.iconst X 179 dL_sites_178 rfl ?_
            refine G.icmp_ne X 265 182 dL_sites_179 (by decide) rfl (by omega) (by omega) (fun hc179 => by exact absurd hc179 (by decide)) (fun hc179 => ?_)
            refine G.iload X 184 dL_sites_182 rfl rfl ?_
            refine G.if_lt X 228 187 dL_sites_184 (by decide) rfl (by omega) (fun hc184 => by omega) (fun hc184 => ?_)
            refine G.aload_n X 188 dL_sites_187 rfl rfl ?_
            refine G.iload X 190 dL_sites_188 rfl rfl ?_
            refine G.iconst X 191 dL_sites_190 rfl ?_
            refine GS.set X hO ml_L_19 194 dL_sites_191 rfl (set_5p (i := m) (j := i) (by omega) (by omega)) (by omega) (by decide) (by decide) ⟨Nat.zero_le _, Nat.zero_le _⟩ (Nat.le_of_ble_eq_true rfl) ?_
            refine G.iload X 196 dL_sites_194 rfl rfl ?_
            refine G.icmp_ne X 265 199 dL_sites_196 (by decide) rfl (by omega) (by omega) (fun hc196 => by exfalso; omega) (fun hc196 => ?_)
            refine G.aload_n X 200 dL_sites_199 rfl rfl ?_
            refine G.iload X 202 dL_sites_200 rfl rfl ?_
            refine G.iconst X 203 dL_sites_202 rfl ?_
            refine GS.set X hO ml_L_19 206 dL_sites_203 rfl (set_0 (i := m) (by omega)) (by omega) (by decide) (by decide) ⟨Nat.zero_le _, Nat.zero_le _⟩ (Nat.le_of_ble_eq_true rfl) ?_
            refine G.aload_n X 207 dL_sites_206 rfl rfl ?_
            refine G.iload X 209 dL_sites_207 rfl rfl ?_
            refine G.iconst X 210 dL_sites_209 rfl ?_
            refine GS.site X hO ml_L_23 213 dL_sites_210 rfl (sit_1 (i := i) (by omega)) (by omega) (by decide) (by decide) ⟨Nat.zero_le _, Nat.zero_le _⟩ (Nat.le_of_ble_eq_true rfl) ?_
            refine G.icmp_lt X 265 216 dL_sites_213 (by decide) rfl (by omega) (by omega) (fun hc213 => by exfalso; omega) (fun hc213 => ?_)
            refine G.iload X 218 dL_sites_216 rfl rfl ?_
            refine G.aload_n X 219 dL_sites_218 rfl rfl ?_
            refine G.iload X 221 dL_sites_219 rfl rfl ?_
            refine G.iconst X 222 dL_sites_221 rfl ?_
            refine GS.site X hO ml_L_23 225 dL_sites_222 rfl (sit_3 (i := i) (by omega)) (by omega) (by decide) (by decide) ⟨Nat.zero_le _, Nat.zero_le _⟩ (Nat.le_of_ble_eq_true rfl) ?_
            refine G.icmp_ge X 265 228 dL_sites_225 (by decide) rfl (by omega) (by omega) (fun hc225 => by exfalso; omega) (fun hc225 => ?_)
            refine G.aload_n X 229 dL_sites_228 rfl rfl ?_
            refine G.iload X 231 dL_sites_229 rfl rfl ?_
            refine G.bipush X 233 dL_sites_231 rfl (by decide) ?_
            refine GS.site X hO ml_L_23 236 dL_sites_233 rfl (sit_8z (i := i) (by omega) h8) (by omega) (by decide) (by decide) ⟨Nat.zero_le _, Nat.zero_le _⟩ (Nat.le_of_ble_eq_true rfl) ?_
            refine G.bipush X 238 dL_sites_236 rfl (by decide) ?_
            refine G.icmp_ne X 245 241 dL_sites_238 (by decide) rfl (by omega) (by omega) (fun hc238 => by exact absurd hc238 (by decide)) (fun hc238 => ?_)
            refine G.iconst X 242 dL_sites_241 rfl ?_
            refine G.goto X 246 dL_sites_242 (by decide) ?_
            refine G.aload_n X 247 dL_sites_246 rfl rfl ?_
            refine G.iload X 249 dL_sites_247 rfl rfl ?_
            refine G.bipush X 251 dL_sites_249 rfl (by decide) ?_
            refine GS.site X hO ml_L_23 254 dL_sites_251 rfl (sit_6 (i := i) (by omega)) (by omega) (by decide) (by decide) ⟨Nat.zero_le _, Nat.zero_le _⟩ (Nat.le_of_ble_eq_true rfl) ?_
            refine G.if_ne X 261 257 dL_sites_254 (by decide) rfl (by omega) (fun hc254 => by exfalso; omega) (fun hc254 => ?_)
            refine G.iconst X 258 dL_sites_257 rfl ?_
            refine G.goto X 262 dL_sites_258 (by decide) ?_
            refine G.icmp_eq X 267 265 dL_sites_262 (by decide) rfl (by omega) (by omega) (fun hc262 => ?_) (fun hc262 => by exact absurd hc262 (by decide))
            refine G.iload X 269 dL_sites_267 rfl rfl ?_
            refine G.if_eq X 326 272 dL_sites_269 (by decide) rfl (by omega) (fun hc269 => ?_) (fun hc269 => by exact absurd hc269 (by decide))
            refine G.iload X 328 dL_sites_326 rfl rfl ?_
            refine G.bipush X 330 dL_sites_328 rfl (by decide) ?_
            refine G.icmp_eq X 335 333 dL_sites_330 (by decide) rfl (by omega) (by omega) (fun hc330 => ?_) (fun hc330 => by exact absurd hc330 (by decide))
            refine G.iinc (ls' := [_, _, _, _, _, _, _, _, _, _, _, _, _]) X 338 dL_sites_335 rfl rfl (by decide) rfl ?_
            refine G.goto X 25 dL_sites_338 (by decide) ?_
            refine G.drop 9 ?_
            refine G.drop 10 ?_
            refine G.drop 11 ?_
            exact ih (i + 1) _ _ _ _ _ _ M (by omega) (by simp only [sumN_s]; omega) (by simp only [sumN_s]; omega) (by simp only [sumN_s]; omega) (by simp only [sumN_s]; omega) (by simp only [sumN_s]; omega) (by simp only [sumN_s]; omega) hO
          · have h6 : ¬ fC r i 6 = 0 := fun g => h8 (j8.mpr g)
            refine G.iconst X 40 dL_sites_39 rfl ?_
            refine GS.site X hO ml_L_23 43 dL_sites_40 rfl (sit_2 (i := i) (by omega)) (by omega) (by decide) (by decide) ⟨Nat.zero_le _, Nat.zero_le _⟩ (Nat.le_of_ble_eq_true rfl) ?_
            refine G.iload X 45 dL_sites_43 rfl rfl ?_
            refine G.icmp_gt X 64 48 dL_sites_45 (by decide) rfl (by omega) (by omega) (fun hc45 => ?_) (fun hc45 => by exfalso; omega)
            refine G.iconst X 65 dL_sites_64 rfl ?_
            refine G.istore (ls' := [_, _, _, _, _, _, _, _, _, _, _, _, _]) X 67 dL_sites_65 rfl (by decide) rfl ?_
            refine G.aload_n X 68 dL_sites_67 rfl rfl ?_
            refine G.iload X 70 dL_sites_68 rfl rfl ?_
            refine G.iconst X 71 dL_sites_70 rfl ?_
            refine GS.site X hO ml_L_23 74 dL_sites_71 rfl (sit_4p (i := i) (j := m) (by omega) (by omega)) (by omega) (by decide) (by decide) ⟨Nat.zero_le _, Nat.zero_le _⟩ (Nat.le_of_ble_eq_true rfl) ?_
            refine G.istore (ls' := [_, _, _, _, _, _, _, _, _, _, _, _, _]) X 76 dL_sites_74 rfl (by decide) rfl ?_
            refine G.aload_n X 77 dL_sites_76 rfl rfl ?_
            refine G.iload X 79 dL_sites_77 rfl rfl ?_
            refine GS.why X hO ml_L_26 82 dL_sites_79 rfl (why_c (i := i) (by omega) ho) (by omega) (by decide) ⟨Nat.zero_le _, Nat.zero_le _⟩ (Nat.le_of_ble_eq_true rfl) ?_
            refine G.istore (ls' := [_, _, _, _, _, _, _, _, _, _, _, _, _]) X 84 dL_sites_82 rfl (by decide) rfl ?_
            refine G.iload_n X 85 dL_sites_84 rfl rfl ?_
            refine G.iload X 87 dL_sites_85 rfl rfl ?_
            refine G.if_eq X 94 90 dL_sites_87 (by decide) rfl (by omega) (fun hc87 => ?_) (fun hc87 => by exact absurd hc87 (by decide))
            refine G.iconst X 95 dL_sites_94 rfl ?_
            refine G.iadd X 96 dL_sites_95 rfl ?_
            refine G.istore_n (ls' := [_, _, _, _, _, _, _, _, _, _, _, _, _]) X 97 dL_sites_96 rfl (by decide) rfl ?_
            refine G.iload_n X 98 dL_sites_97 rfl rfl ?_
            refine G.aload_n X 99 dL_sites_98 rfl rfl ?_
            refine G.iload X 101 dL_sites_99 rfl rfl ?_
            refine G.iconst X 102 dL_sites_101 rfl ?_
            refine GS.site X hO ml_L_23 105 dL_sites_102 rfl (sit_5 (i := i) (by omega)) (by omega) (by decide) (by decide) ⟨Nat.zero_le _, Nat.zero_le _⟩ (Nat.le_of_ble_eq_true rfl) ?_
            refine G.iadd X 106 dL_sites_105 rfl ?_
            refine G.istore_n (ls' := [_, _, _, _, _, _, _, _, _, _, _, _, _]) X 107 dL_sites_106 rfl (by decide) rfl ?_
            refine G.iload_n X 108 dL_sites_107 rfl rfl ?_
            refine G.aload_n X 109 dL_sites_108 rfl rfl ?_
            refine G.iload X 111 dL_sites_109 rfl rfl ?_
            refine G.bipush X 113 dL_sites_111 rfl (by decide) ?_
            refine GS.site X hO ml_L_23 116 dL_sites_113 rfl (sit_6 (i := i) (by omega)) (by omega) (by decide) (by decide) ⟨Nat.zero_le _, Nat.zero_le _⟩ (Nat.le_of_ble_eq_true rfl) ?_
            refine G.iadd X 117 dL_sites_116 rfl ?_
            refine G.istore_n (ls' := [_, _, _, _, _, _, _, _, _, _, _, _, _]) X 118 dL_sites_117 rfl (by decide) rfl ?_
            refine G.iload X 120 dL_sites_118 rfl rfl ?_
            refine G.aload_n X 121 dL_sites_120 rfl rfl ?_
            refine G.iload X 123 dL_sites_121 rfl rfl ?_
            refine G.bipush X 125 dL_sites_123 rfl (by decide) ?_
            refine GS.site X hO ml_L_23 128 dL_sites_125 rfl (sit_7 (i := i) (by omega)) (by omega) (by decide) (by decide) ⟨Nat.zero_le _, Nat.zero_le _⟩ (Nat.le_of_ble_eq_true rfl) ?_
            refine G.iadd X 129 dL_sites_128 rfl ?_
            refine G.istore (ls' := [_, _, _, _, _, _, _, _, _, _, _, _, _]) X 131 dL_sites_129 rfl (by decide) rfl ?_
            refine G.iload X 133 dL_sites_131 rfl rfl ?_
            refine G.iload X 135 dL_sites_133 rfl rfl ?_
            refine G.if_lt X 142 138 dL_sites_135 (by decide) rfl (by omega) (fun hc135 => by omega) (fun hc135 => ?_)
            refine G.iconst X 139 dL_sites_138 rfl ?_
            refine G.goto X 143 dL_sites_139 (by decide) ?_
            refine G.iadd X 144 dL_sites_143 rfl ?_
            refine G.istore (ls' := [_, _, _, _, _, _, _, _, _, _, _, _, _]) X 146 dL_sites_144 rfl (by decide) rfl ?_
            refine G.iload X 148 dL_sites_146 rfl rfl ?_
            refine G.iload X 150 dL_sites_148 rfl rfl ?_
            refine G.if_ne X 157 153 dL_sites_150 (by decide) rfl (by omega) (fun hc150 => ?_) (fun hc150 => by exact absurd hc150 (by decide))
            refine G.iconst X 158 dL_sites_157 rfl ?_
            refine G.iadd X 159 dL_sites_158 rfl ?_
            refine G.istore (ls' := [_, _, _, _, _, _, _, _, _, _, _, _, _]) X 161 dL_sites_159 rfl (by decide) rfl ?_
            refine G.aload_n X 162 dL_sites_161 rfl rfl ?_
            refine G.iload X 164 dL_sites_162 rfl rfl ?_
            refine G.bipush X 166 dL_sites_164 rfl (by decide) ?_
            refine GS.site X hO ml_L_23 169 dL_sites_166 rfl (sit_9f (i := i) (by omega) ho) (by omega) (by decide) (by decide) ⟨Nat.zero_le _, Nat.zero_le _⟩ (Nat.le_of_ble_eq_true rfl) ?_
            refine G.iload X 171 dL_sites_169 rfl rfl ?_
            refine G.if_eq X 178 174 dL_sites_171 (by decide) rfl (by omega) (fun hc171 => ?_) (fun hc171 => by exact absurd hc171 (by decide))
            refine G.iconst X 179 dL_sites_178 rfl ?_
            refine G.icmp_ne X 265 182 dL_sites_179 (by decide) rfl (by omega) (by omega) (fun hc179 => by exact absurd hc179 (by decide)) (fun hc179 => ?_)
            refine G.iload X 184 dL_sites_182 rfl rfl ?_
            refine G.if_lt X 228 187 dL_sites_184 (by decide) rfl (by omega) (fun hc184 => by omega) (fun hc184 => ?_)
            refine G.aload_n X 188 dL_sites_187 rfl rfl ?_
            refine G.iload X 190 dL_sites_188 rfl rfl ?_
            refine G.iconst X 191 dL_sites_190 rfl ?_
            refine GS.set X hO ml_L_19 194 dL_sites_191 rfl (set_5p (i := m) (j := i) (by omega) (by omega)) (by omega) (by decide) (by decide) ⟨Nat.zero_le _, Nat.zero_le _⟩ (Nat.le_of_ble_eq_true rfl) ?_
            refine G.iload X 196 dL_sites_194 rfl rfl ?_
            refine G.icmp_ne X 265 199 dL_sites_196 (by decide) rfl (by omega) (by omega) (fun hc196 => by exfalso; omega) (fun hc196 => ?_)
            refine G.aload_n X 200 dL_sites_199 rfl rfl ?_
            refine G.iload X 202 dL_sites_200 rfl rfl ?_
            refine G.iconst X 203 dL_sites_202 rfl ?_
            refine GS.set X hO ml_L_19 206 dL_sites_203 rfl (set_0 (i := m) (by omega)) (by omega) (by decide) (by decide) ⟨Nat.zero_le _, Nat.zero_le _⟩ (Nat.le_of_ble_eq_true rfl) ?_
            refine G.aload_n X 207 dL_sites_206 rfl rfl ?_
            refine G.iload X 209 dL_sites_207 rfl rfl ?_
            refine G.iconst X 210 dL_sites_209 rfl ?_
            refine GS.site X hO ml_L_23 213 dL_sites_210 rfl (sit_1 (i := i) (by omega)) (by omega) (by decide) (by decide) ⟨Nat.zero_le _, Nat.zero_le _⟩ (Nat.le_of_ble_eq_true rfl) ?_
            refine G.icmp_lt X 265 216 dL_sites_213 (by decide) rfl (by omega) (by omega) (fun hc213 => by exfalso; omega) (fun hc213 => ?_)
            refine G.iload X 218 dL_sites_216 rfl rfl ?_
            refine G.aload_n X 219 dL_sites_218 rfl rfl ?_
            refine G.iload X 221 dL_sites_219 rfl rfl ?_
            refine G.iconst X 222 dL_sites_221 rfl ?_
            refine GS.site X hO ml_L_23 225 dL_sites_222 rfl (sit_3 (i := i) (by omega)) (by omega) (by decide) (by decide) ⟨Nat.zero_le _, Nat.zero_le _⟩ (Nat.le_of_ble_eq_true rfl) ?_
            refine G.icmp_ge X 265 228 dL_sites_225 (by decide) rfl (by omega) (by omega) (fun hc225 => by exfalso; omega) (fun hc225 => ?_)
            refine G.aload_n X 229 dL_sites_228 rfl rfl ?_
            refine G.iload X 231 dL_sites_229 rfl rfl ?_
            refine G.bipush X 233 dL_sites_231 rfl (by decide) ?_
            refine GS.site X hO ml_L_23 236 dL_sites_233 rfl (sit_8p (i := i) (by omega) h8) (by omega) (by decide) (by decide) ⟨Nat.zero_le _, Nat.zero_le _⟩ (Nat.le_of_ble_eq_true rfl) ?_
            refine G.bipush X 238 dL_sites_236 rfl (by decide) ?_
            refine G.icmp_ne X 245 241 dL_sites_238 (by decide) rfl (by omega) (by omega) (fun hc238 => ?_) (fun hc238 => by exfalso; omega)
            refine G.iconst X 246 dL_sites_245 rfl ?_
            refine G.aload_n X 247 dL_sites_246 rfl rfl ?_
            refine G.iload X 249 dL_sites_247 rfl rfl ?_
            refine G.bipush X 251 dL_sites_249 rfl (by decide) ?_
            refine GS.site X hO ml_L_23 254 dL_sites_251 rfl (sit_6 (i := i) (by omega)) (by omega) (by decide) (by decide) ⟨Nat.zero_le _, Nat.zero_le _⟩ (Nat.le_of_ble_eq_true rfl) ?_
            refine G.if_ne X 261 257 dL_sites_254 (by decide) rfl (by omega) (fun hc254 => ?_) (fun hc254 => by exfalso; omega)
            refine G.iconst X 262 dL_sites_261 rfl ?_
            refine G.icmp_eq X 267 265 dL_sites_262 (by decide) rfl (by omega) (by omega) (fun hc262 => ?_) (fun hc262 => by exact absurd hc262 (by decide))
            refine G.iload X 269 dL_sites_267 rfl rfl ?_
            refine G.if_eq X 326 272 dL_sites_269 (by decide) rfl (by omega) (fun hc269 => ?_) (fun hc269 => by exact absurd hc269 (by decide))
            refine G.iload X 328 dL_sites_326 rfl rfl ?_
            refine G.bipush X 330 dL_sites_328 rfl (by decide) ?_
            refine G.icmp_eq X 335 333 dL_sites_330 (by decide) rfl (by omega) (by omega) (fun hc330 => ?_) (fun hc330 => by exact absurd hc330 (by decide))
            refine G.iinc (ls' := [_, _, _, _, _, _, _, _, _, _, _, _, _]) X 338 dL_sites_335 rfl rfl (by decide) rfl ?_
            refine G.goto X 25 dL_sites_338 (by decide) ?_
            refine G.drop 9 ?_
            refine G.drop 10 ?_
            refine G.drop 11 ?_
            exact ih (i + 1) _ _ _ _ _ _ M (by omega) (by simp only [sumN_s]; omega) (by simp only [sumN_s]; omega) (by simp only [sumN_s]; omega) (by simp only [sumN_s]; omega) (by simp only [sumN_s]; omega) (by simp only [sumN_s]; omega) hO
  refine G.iconst X 1 dL_sites_0 rfl ?_
  refine G.istore_n (ls' := [_, _, _, _, _, _, _, _, _, _, _, _, _]) X 2 dL_sites_1 rfl (by decide) rfl ?_
  refine G.iconst X 3 dL_sites_2 rfl ?_
  refine G.istore_n (ls' := [_, _, _, _, _, _, _, _, _, _, _, _, _]) X 4 dL_sites_3 rfl (by decide) rfl ?_
  refine G.iconst X 5 dL_sites_4 rfl ?_
  refine G.istore_n (ls' := [_, _, _, _, _, _, _, _, _, _, _, _, _]) X 6 dL_sites_5 rfl (by decide) rfl ?_
  refine G.iconst X 7 dL_sites_6 rfl ?_
  refine G.istore (ls' := [_, _, _, _, _, _, _, _, _, _, _, _, _]) X 9 dL_sites_7 rfl (by decide) rfl ?_
  refine G.iconst X 10 dL_sites_9 rfl ?_
  refine G.istore (ls' := [_, _, _, _, _, _, _, _, _, _, _, _, _]) X 12 dL_sites_10 rfl (by decide) rfl ?_
  refine G.iconst X 13 dL_sites_12 rfl ?_
  refine G.istore (ls' := [_, _, _, _, _, _, _, _, _, _, _, _, _]) X 15 dL_sites_13 rfl (by decide) rfl ?_
  refine G.aload_n X 16 dL_sites_15 rfl rfl ?_
  refine G.iconst X 17 dL_sites_16 rfl ?_
  refine GS.count X hO ml_L_13 20 dL_sites_17 rfl (cnt_0) (by decide) (by decide) ⟨Nat.zero_le _, Nat.zero_le _⟩ (Nat.le_of_ble_eq_true rfl) (fun M hO => ?_)
  refine G.istore (ls' := [_, _, _, _, _, _, _, _, _, _, _, _, _]) X 22 dL_sites_20 rfl (by decide) rfl ?_
  refine G.iconst X 23 dL_sites_22 rfl ?_
  refine G.istore (ls' := [_, _, _, _, _, _, _, _, _, _, _, _, _]) X 25 dL_sites_23 rfl (by decide) rfl ?_
  exact L25 (nC r) 0 0 0 0 0 0 0 M (by omega) rfl rfl rfl rfl rfl rfl hO
