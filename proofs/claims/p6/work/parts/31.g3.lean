set_option maxHeartbeats 4000000 in
set_option maxRecDepth 20000 in
theorem g_case12 (κ : Kx) (γ : Gh) (Q : State → Prop) (nm : String) (O : OK κ γ code 4 "BloodPriceLaw" 2000 ret nm) (hrc : κ.2.2.2.1.cells = 600000) (hrs : κ.2.2.2.1.slots = 7302250) (L : Nat) (hLγ : γ.2.2.2.2.2.2.1 = L) (hL : L ≤ 4096) (i : Int) (hi : 0 ≤ i ∧ i + 8 ≤ L) (σ : VH) (cells slots : Nat) (hc : cells ≤ 500000) (hs : slots ≤ 7000000) (IX : InvX σ) (IM : InvM σ) (K : Cp σ) (K2 : Cxt σ) (K3 : Cl σ) (fin : ∀ (τ : VH) (c s : Nat), InvX τ → InvM τ → Cp τ → Cxt τ → Cl τ → c ≤ cells + 10 → s ≤ slots + 863 → Z κ γ 4 τ c s Q 1049 [(0, .float 0), (1, .ref 2), (2, .ref 33), (3, .int (iz i))] []) : Z κ γ 4 σ cells slots Q 586 [(0, .float 0), (1, .ref 2), (2, .ref 33), (3, .int (iz i))] [] := by
  unfold Cp at K
  have ix1 := IX.2.1
  unfold InvX1 at ix1
  have im1 := IM.2.1
  unfold InvM1 at im1
  refine z_aload_n (pc := 586) O dL_law_586 rfl ?_
  refine z_aloadS (pc := 587) O dL_law_587 rfl ?_
  refine z_iload_n (pc := 588) O dL_law_588 rfl ?_
  refine z_iconst (pc := 589) (v := iz (1)) O dL_law_589 (by decide) ?_
  refine zi_iadd (pc := 590) O dL_law_590 ?_
  refine z_sld (pc := 591) ((i + 1).toNat) O (iz_nI (by omega)) (by rw [hLγ]; omega) (by rw [hLγ]; omega) dL_law_591 ?_
  refine zi_val _ (izi _) ?_
  have := rng (γ.2.2.2.2.2.2.2 ((i + 1).toNat))
  refine z_aloadS (pc := 592) O dL_law_592 rfl ?_
  refine z_iload_n (pc := 593) O dL_law_593 rfl ?_
  refine z_iconst (pc := 594) (v := iz (2)) O dL_law_594 (by decide) ?_
  refine zi_iadd (pc := 595) O dL_law_595 ?_
  refine z_sld (pc := 596) ((i + 2).toNat) O (iz_nI (by omega)) (by rw [hLγ]; omega) (by rw [hLγ]; omega) dL_law_596 ?_
  refine zi_val _ (izi _) ?_
  have := rng (γ.2.2.2.2.2.2.2 ((i + 2).toNat))
  refine z_aloadS (pc := 597) O dL_law_597 rfl ?_
  refine z_iload_n (pc := 598) O dL_law_598 rfl ?_
  refine z_iconst (pc := 599) (v := iz (3)) O dL_law_599 (by decide) ?_
  refine zi_iadd (pc := 600) O dL_law_600 ?_
  refine z_sld (pc := 601) ((i + 3).toNat) O (iz_nI (by omega)) (by rw [hLγ]; omega) (by rw [hLγ]; omega) dL_law_601 ?_
  refine zi_val _ (izi _) ?_
  have := rng (γ.2.2.2.2.2.2.2 ((i + 3).toNat))
  refine z_i2l (pc := 602) O dL_law_602 ?_
  refine z_topl (pc := 603) (fun w1 ew1 => ?_)
  refine z_bipush (pc := 603) (v := iz (32)) O dL_law_603 (by decide) ?_
  refine z_lshl (pc := 605) O dL_law_605 ?_
  refine z_topl (pc := 606) (fun w2 ew2 => ?_)
  refine z_aloadS (pc := 606) O dL_law_606 rfl ?_
  refine z_iload_n (pc := 607) O dL_law_607 rfl ?_
  refine z_iconst (pc := 608) (v := iz (4)) O dL_law_608 (by decide) ?_
  refine zi_iadd (pc := 609) O dL_law_609 ?_
  refine z_sld (pc := 610) ((i + 4).toNat) O (iz_nI (by omega)) (by rw [hLγ]; omega) (by rw [hLγ]; omega) dL_law_610 ?_
  refine zi_val _ (izi _) ?_
  have := rng (γ.2.2.2.2.2.2.2 ((i + 4).toNat))
  refine z_i2l (pc := 611) O dL_law_611 ?_
  refine z_topl (pc := 612) (fun w3 ew3 => ?_)
  refine z_ldc2 (pc := 612) O tw_1271 dL_law_612 ?_
  refine z_land (pc := 615) O dL_law_615 ?_
  refine z_topl (pc := 616) (fun w4 ew4 => ?_)
  refine z_lor (pc := 616) O dL_law_616 ?_
  refine z_topl (pc := 617) (fun w5 ew5 => ?_)
  refine z_aloadS (pc := 617) O dL_law_617 rfl ?_
  refine z_iload_n (pc := 618) O dL_law_618 rfl ?_
  refine z_iconst (pc := 619) (v := iz (5)) O dL_law_619 (by decide) ?_
  refine zi_iadd (pc := 620) O dL_law_620 ?_
  refine z_sld (pc := 621) ((i + 5).toNat) O (iz_nI (by omega)) (by rw [hLγ]; omega) (by rw [hLγ]; omega) dL_law_621 ?_
  refine zi_val _ (izi _) ?_
  have := rng (γ.2.2.2.2.2.2.2 ((i + 5).toNat))
  refine z_aloadS (pc := 622) O dL_law_622 rfl ?_
  refine z_iload_n (pc := 623) O dL_law_623 rfl ?_
  refine z_bipush (pc := 624) (v := iz (6)) O dL_law_624 (by decide) ?_
  refine zi_iadd (pc := 626) O dL_law_626 ?_
  refine z_sld (pc := 627) ((i + 6).toNat) O (iz_nI (by omega)) (by rw [hLγ]; omega) (by rw [hLγ]; omega) dL_law_627 ?_
  refine zi_val _ (izi _) ?_
  have := rng (γ.2.2.2.2.2.2.2 ((i + 6).toNat))
  refine z_aloadS (pc := 628) O dL_law_628 rfl ?_
  refine z_iload_n (pc := 629) O dL_law_629 rfl ?_
  refine z_bipush (pc := 630) (v := iz (7)) O dL_law_630 (by decide) ?_
  refine zi_iadd (pc := 632) O dL_law_632 ?_
  refine z_sld (pc := 633) ((i + 7).toNat) O (iz_nI (by omega)) (by rw [hLγ]; omega) (by rw [hLγ]; omega) dL_law_633 ?_
  refine zi_val _ (izi _) ?_
  have := rng (γ.2.2.2.2.2.2.2 ((i + 7).toNat))
  refine zi_if_eq (pc := 634) (tgt := 641) O dL_law_634 (by decide) (by omega) (fun h634 => ?_) (fun h634 => ?_)
  · refine z_iconst (pc := 641) (v := iz (0)) O dL_law_641 (by decide) ?_
    refine z_callV (pc := 642) O cl_L_69 (k8_hurt5 _ _ ((γ.2.2.2.2.2.2.2 ((i + 1).toNat)).toInt) (by omega) ((γ.2.2.2.2.2.2.2 ((i + 2).toNat)).toInt) (by omega) w5 ((γ.2.2.2.2.2.2.2 ((i + 5).toNat)).toInt) (by omega) ((γ.2.2.2.2.2.2.2 ((i + 6).toNat)).toInt) (by omega) 0 (by omega) IX) (by decide) (jo_2 IX.1) kc_8 rfl rfl (Nat.le_of_ble_eq_true rfl) ⟨by rw [hrc]; omega, by rw [hrs]; omega⟩ dL_law_642 (fun r τ6 hp => ?_)
    obtain ⟨z7, rfl, fτ6_0, frτ6, ivτ6_InvX, eτ6_0⟩ := hp
    have imτ6 : InvM τ6 := InvM.cls frτ6 IM ivτ6_InvX.1 rfl
    have srτ6 : SRw τ6 := SRw.frW K2.2.2 frτ6 (fun _ => rfl) (fun _ => rfl)
    have clτ6 : Cl τ6 := Cl.mv K3 IX IM (fun k => (gI_eq (FrG.it frτ6 rfl rfl : hI τ6 36 k = hI σ 36 k))) (fun k => (gI_eq (FrG.it frτ6 rfl rfl : hI τ6 37 k = hI σ 37 k))) (fun k => (gI_eq (FrG.it frτ6 rfl rfl : hI τ6 38 k = hI σ 38 k))) (gI_eq (FrG.it frτ6 rfl rfl : hI τ6 33 33 = hI σ 33 33)) eτ6_0.2 eτ6_0.1
    refine z_pop (pc := 645) O dL_law_645 rfl ?_
    refine z_aload_n (pc := 646) O dL_law_646 rfl ?_
    refine z_aloadS (pc := 647) O dL_law_647 rfl ?_
    refine z_iload_n (pc := 648) O dL_law_648 rfl ?_
    refine z_iconst (pc := 649) (v := iz (1)) O dL_law_649 (by decide) ?_
    refine zi_iadd (pc := 650) O dL_law_650 ?_
    refine z_sld (pc := 651) ((i + 1).toNat) O (iz_nI (by omega)) (by rw [hLγ]; omega) (by rw [hLγ]; omega) dL_law_651 ?_
    refine zi_val _ (izi _) ?_
    have := rng (γ.2.2.2.2.2.2.2 ((i + 1).toNat))
    refine z_aloadS (pc := 652) O dL_law_652 rfl ?_
    refine z_iload_n (pc := 653) O dL_law_653 rfl ?_
    refine z_iconst (pc := 654) (v := iz (2)) O dL_law_654 (by decide) ?_
    refine zi_iadd (pc := 655) O dL_law_655 ?_
    refine z_sld (pc := 656) ((i + 2).toNat) O (iz_nI (by omega)) (by rw [hLγ]; omega) (by rw [hLγ]; omega) dL_law_656 ?_
    refine zi_val _ (izi _) ?_
    have := rng (γ.2.2.2.2.2.2.2 ((i + 2).toNat))
    refine z_aloadS (pc := 657) O dL_law_657 rfl ?_
    refine z_iload_n (pc := 658) O dL_law_658 rfl ?_
    refine z_iconst (pc := 659) (v := iz (3)) O dL_law_659 (by decide) ?_
    refine zi_iadd (pc := 660) O dL_law_660 ?_
    refine z_sld (pc := 661) ((i + 3).toNat) O (iz_nI (by omega)) (by rw [hLγ]; omega) (by rw [hLγ]; omega) dL_law_661 ?_
    refine zi_val _ (izi _) ?_
    have := rng (γ.2.2.2.2.2.2.2 ((i + 3).toNat))
    refine z_i2l (pc := 662) O dL_law_662 ?_
    refine z_topl (pc := 663) (fun w8 ew8 => ?_)
    refine z_bipush (pc := 663) (v := iz (32)) O dL_law_663 (by decide) ?_
    refine z_lshl (pc := 665) O dL_law_665 ?_
    refine z_topl (pc := 666) (fun w9 ew9 => ?_)
    refine z_aloadS (pc := 666) O dL_law_666 rfl ?_
    refine z_iload_n (pc := 667) O dL_law_667 rfl ?_
    refine z_iconst (pc := 668) (v := iz (4)) O dL_law_668 (by decide) ?_
    refine zi_iadd (pc := 669) O dL_law_669 ?_
    refine z_sld (pc := 670) ((i + 4).toNat) O (iz_nI (by omega)) (by rw [hLγ]; omega) (by rw [hLγ]; omega) dL_law_670 ?_
    refine zi_val _ (izi _) ?_
    have := rng (γ.2.2.2.2.2.2.2 ((i + 4).toNat))
    refine z_i2l (pc := 671) O dL_law_671 ?_
    refine z_topl (pc := 672) (fun w10 ew10 => ?_)
    refine z_ldc2 (pc := 672) O tw_1271 dL_law_672 ?_
    refine z_land (pc := 675) O dL_law_675 ?_
    refine z_topl (pc := 676) (fun w11 ew11 => ?_)
    refine z_lor (pc := 676) O dL_law_676 ?_
    refine z_topl (pc := 677) (fun w12 ew12 => ?_)
    refine z_aloadS (pc := 677) O dL_law_677 rfl ?_
    refine z_iload_n (pc := 678) O dL_law_678 rfl ?_
    refine z_iconst (pc := 679) (v := iz (5)) O dL_law_679 (by decide) ?_
    refine zi_iadd (pc := 680) O dL_law_680 ?_
    refine z_sld (pc := 681) ((i + 5).toNat) O (iz_nI (by omega)) (by rw [hLγ]; omega) (by rw [hLγ]; omega) dL_law_681 ?_
    refine zi_val _ (izi _) ?_
    have := rng (γ.2.2.2.2.2.2.2 ((i + 5).toNat))
    refine z_aloadS (pc := 682) O dL_law_682 rfl ?_
    refine z_iload_n (pc := 683) O dL_law_683 rfl ?_
    refine z_bipush (pc := 684) (v := iz (6)) O dL_law_684 (by decide) ?_
    refine zi_iadd (pc := 686) O dL_law_686 ?_
    refine z_sld (pc := 687) ((i + 6).toNat) O (iz_nI (by omega)) (by rw [hLγ]; omega) (by rw [hLγ]; omega) dL_law_687 ?_
    refine zi_val _ (izi _) ?_
    have := rng (γ.2.2.2.2.2.2.2 ((i + 6).toNat))
    refine z_aloadS (pc := 688) O dL_law_688 rfl ?_
    refine z_iload_n (pc := 689) O dL_law_689 rfl ?_
    refine z_bipush (pc := 690) (v := iz (7)) O dL_law_690 (by decide) ?_
    refine zi_iadd (pc := 692) O dL_law_692 ?_
    refine z_sld (pc := 693) ((i + 7).toNat) O (iz_nI (by omega)) (by rw [hLγ]; omega) (by rw [hLγ]; omega) dL_law_693 ?_
    refine zi_val _ (izi _) ?_
    have := rng (γ.2.2.2.2.2.2.2 ((i + 7).toNat))
    refine zi_if_eq (pc := 694) (tgt := 701) O dL_law_694 (by decide) (by omega) (fun h694 => ?_) (fun h694 => ?_)
    · refine z_iconst (pc := 701) (v := iz (0)) O dL_law_701 (by decide) ?_
      refine z_callV (pc := 702) O cl_L_73 (k9_hurt _ _ ((γ.2.2.2.2.2.2.2 ((i + 1).toNat)).toInt) (by omega) ((γ.2.2.2.2.2.2.2 ((i + 2).toNat)).toInt) (by omega) w12 ((γ.2.2.2.2.2.2.2 ((i + 5).toNat)).toInt) (by omega) ((γ.2.2.2.2.2.2.2 ((i + 6).toNat)).toInt) (by omega) 0 (by omega) imτ6) (by decide) (jo_33 ivτ6_InvX.1) kc_9 rfl rfl (Nat.le_of_ble_eq_true rfl) ⟨by rw [hrc]; omega, by rw [hrs]; omega⟩ dL_law_702 (fun r τ13 hp => ?_)
      obtain ⟨z14, rfl, fτ13_0, frτ13, ivτ13_InvM⟩ := hp
      have ixτ13 : InvX τ13 := InvX.mod frτ13 ivτ6_InvX rfl
      have srτ13 : SRw τ13 := SRw.frW srτ6 frτ13.G (fun _ => rfl) (fun _ => rfl)
      have clτ13 : Cl τ13 := Cl.mv clτ6 ivτ6_InvX imτ6 (fun k => (gI_eq (Fr.it frτ13 rfl rfl : hI τ13 36 k = hI τ6 36 k))) (fun k => (gI_eq (Fr.it frτ13 rfl rfl : hI τ13 37 k = hI τ6 37 k))) (fun k => (gI_eq (Fr.it frτ13 rfl rfl : hI τ13 38 k = hI τ6 38 k))) (gI_eq (Fr.it frτ13 rfl rfl : hI τ13 33 33 = hI τ6 33 33)) (fun j => by rw [frτ13.2.2.1]) (Old.fr frτ13)
      refine z_pop (pc := 705) O dL_law_705 rfl ?_
      refine z_goto (pc := 706) (tgt := 1049) O dL_law_706 (by decide) ?_
      exact fin τ13 _ _ ixτ13 ivτ13_InvM (by unfold Cp; have : gI τ13 2 15 = gI σ 2 15 := gI_iz (Fr.it frτ13 rfl (FrG.it frτ6 rfl (izg σ 2 15))) (rgI _ _ _); have : gI τ13 33 73 = gI σ 33 73 := gI_iz (Fr.it frτ13 rfl (FrG.it frτ6 rfl (izg σ 33 73))) (rgI _ _ _); have : gI τ13 2 7 = gI σ 2 7 := gI_iz (Fr.it frτ13 rfl (FrG.it frτ6 rfl (izg σ 2 7))) (rgI _ _ _); have : gI τ13 33 6 = gI σ 33 6 := gI_iz (Fr.it frτ13 rfl (FrG.it frτ6 rfl (izg σ 33 6))) (rgI _ _ _); have : gI τ13 21 4 = gI σ 21 4 := gI_iz (Fr.it frτ13 rfl (FrG.it frτ6 rfl (izg σ 21 4))) (rgI _ _ _); have : gI τ13 33 54 = gI σ 33 54 := gI_iz (Fr.it frτ13 rfl (FrG.it frτ6 rfl (izg σ 33 54))) (rgI _ _ _); have : gI τ13 9 7 = gI σ 9 7 := gI_iz (Fr.it frτ13 rfl (FrG.it frτ6 rfl (izg σ 9 7))) (rgI _ _ _); have : gI τ13 33 52 = gI σ 33 52 := gI_iz (Fr.it frτ13 rfl (FrG.it frτ6 rfl (izg σ 33 52))) (rgI _ _ _); have : gI τ13 16 4 = gI σ 16 4 := gI_iz (Fr.it frτ13 rfl (FrG.it frτ6 rfl (izg σ 16 4))) (rgI _ _ _); have : gI τ13 33 53 = gI σ 33 53 := gI_iz (Fr.it frτ13 rfl (FrG.it frτ6 rfl (izg σ 33 53))) (rgI _ _ _); have : gI τ13 2 1 = gI σ 2 1 := gI_iz (Fr.it frτ13 rfl (FrG.it frτ6 rfl (izg σ 2 1))) (rgI _ _ _); have : gI τ13 33 2 = gI σ 33 2 := gI_iz (Fr.it frτ13 rfl (FrG.it frτ6 rfl (izg σ 33 2))) (rgI _ _ _); have : gI τ13 2 5 = gI σ 2 5 := gI_iz (Fr.it frτ13 rfl (FrG.it frτ6 rfl (izg σ 2 5))) (rgI _ _ _); have : gI τ13 33 4 = gI σ 33 4 := gI_iz (Fr.it frτ13 rfl (FrG.it frτ6 rfl (izg σ 33 4))) (rgI _ _ _); have : gI τ13 2 6 = gI σ 2 6 := gI_iz (Fr.it frτ13 rfl (FrG.it frτ6 rfl (izg σ 2 6))) (rgI _ _ _); have : gI τ13 33 5 = gI σ 33 5 := gI_iz (Fr.it frτ13 rfl (FrG.it frτ6 rfl (izg σ 33 5))) (rgI _ _ _); omega) ⟨(fun k => by rw [(Fr.it frτ13 rfl rfl : hI τ13 3 k = hI τ6 3 k), (FrG.it frτ6 rfl rfl : hI τ6 3 k = hI σ 3 k), (Fr.it frτ13 rfl rfl : hI τ13 34 k = hI τ6 34 k), (FrG.it frτ6 rfl rfl : hI τ6 34 k = hI σ 34 k)]; exact K2.1 k), (fun k => by rw [(gI_eq (Fr.it frτ13 rfl rfl : hI τ13 8 k = hI τ6 8 k)), (gI_eq (FrG.it frτ6 rfl rfl : hI τ6 8 k = hI σ 8 k)), (gI_eq (Fr.it frτ13 rfl rfl : hI τ13 38 k = hI τ6 38 k)), (gI_eq (FrG.it frτ6 rfl rfl : hI τ6 38 k = hI σ 38 k))]; exact K2.2.1 k), srτ13⟩ clτ13 (by omega) (by omega)
    · refine z_iconst (pc := 697) (v := iz (1)) O dL_law_697 (by decide) ?_
      refine z_goto (pc := 698) (tgt := 702) O dL_law_698 (by decide) ?_
      refine z_callV (pc := 702) O cl_L_73 (k9_hurt _ _ ((γ.2.2.2.2.2.2.2 ((i + 1).toNat)).toInt) (by omega) ((γ.2.2.2.2.2.2.2 ((i + 2).toNat)).toInt) (by omega) w12 ((γ.2.2.2.2.2.2.2 ((i + 5).toNat)).toInt) (by omega) ((γ.2.2.2.2.2.2.2 ((i + 6).toNat)).toInt) (by omega) 1 (by omega) imτ6) (by decide) (jo_33 ivτ6_InvX.1) kc_9 rfl rfl (Nat.le_of_ble_eq_true rfl) ⟨by rw [hrc]; omega, by rw [hrs]; omega⟩ dL_law_702 (fun r τ15 hp => ?_)
      obtain ⟨z16, rfl, fτ15_0, frτ15, ivτ15_InvM⟩ := hp
      have ixτ15 : InvX τ15 := InvX.mod frτ15 ivτ6_InvX rfl
      have srτ15 : SRw τ15 := SRw.frW srτ6 frτ15.G (fun _ => rfl) (fun _ => rfl)
      have clτ15 : Cl τ15 := Cl.mv clτ6 ivτ6_InvX imτ6 (fun k => (gI_eq (Fr.it frτ15 rfl rfl : hI τ15 36 k = hI τ6 36 k))) (fun k => (gI_eq (Fr.it frτ15 rfl rfl : hI τ15 37 k = hI τ6 37 k))) (fun k => (gI_eq (Fr.it frτ15 rfl rfl : hI τ15 38 k = hI τ6 38 k))) (gI_eq (Fr.it frτ15 rfl rfl : hI τ15 33 33 = hI τ6 33 33)) (fun j => by rw [frτ15.2.2.1]) (Old.fr frτ15)
      refine z_pop (pc := 705) O dL_law_705 rfl ?_
      refine z_goto (pc := 706) (tgt := 1049) O dL_law_706 (by decide) ?_
      exact fin τ15 _ _ ixτ15 ivτ15_InvM (by unfold Cp; have : gI τ15 2 15 = gI σ 2 15 := gI_iz (Fr.it frτ15 rfl (FrG.it frτ6 rfl (izg σ 2 15))) (rgI _ _ _); have : gI τ15 33 73 = gI σ 33 73 := gI_iz (Fr.it frτ15 rfl (FrG.it frτ6 rfl (izg σ 33 73))) (rgI _ _ _); have : gI τ15 2 7 = gI σ 2 7 := gI_iz (Fr.it frτ15 rfl (FrG.it frτ6 rfl (izg σ 2 7))) (rgI _ _ _); have : gI τ15 33 6 = gI σ 33 6 := gI_iz (Fr.it frτ15 rfl (FrG.it frτ6 rfl (izg σ 33 6))) (rgI _ _ _); have : gI τ15 21 4 = gI σ 21 4 := gI_iz (Fr.it frτ15 rfl (FrG.it frτ6 rfl (izg σ 21 4))) (rgI _ _ _); have : gI τ15 33 54 = gI σ 33 54 := gI_iz (Fr.it frτ15 rfl (FrG.it frτ6 rfl (izg σ 33 54))) (rgI _ _ _); have : gI τ15 9 7 = gI σ 9 7 := gI_iz (Fr.it frτ15 rfl (FrG.it frτ6 rfl (izg σ 9 7))) (rgI _ _ _); have : gI τ15 33 52 = gI σ 33 52 := gI_iz (Fr.it frτ15 rfl (FrG.it frτ6 rfl (izg σ 33 52))) (rgI _ _ _); have : gI τ15 16 4 = gI σ 16 4 := gI_iz (Fr.it frτ15 rfl (FrG.it frτ6 rfl (izg σ 16 4))) (rgI _ _ _); have : gI τ15 33 53 = gI σ 33 53 := gI_iz (Fr.it frτ15 rfl (FrG.it frτ6 rfl (izg σ 33 53))) (rgI _ _ _); have : gI τ15 2 1 = gI σ 2 1 := gI_iz (Fr.it frτ15 rfl (FrG.it frτ6 rfl (izg σ 2 1))) (rgI _ _ _); have : gI τ15 33 2 = gI σ 33 2 := gI_iz (Fr.it frτ15 rfl (FrG.it frτ6 rfl (izg σ 33 2))) (rgI _ _ _); have : gI τ15 2 5 = gI σ 2 5 := gI_iz (Fr.it frτ15 rfl (FrG.it frτ6 rfl (izg σ 2 5))) (rgI _ _ _); have : gI τ15 33 4 = gI σ 33 4 := gI_iz (Fr.it frτ15 rfl (FrG.it frτ6 rfl (izg σ 33 4))) (rgI _ _ _); have : gI τ15 2 6 = gI σ 2 6 := gI_iz (Fr.it frτ15 rfl (FrG.it frτ6 rfl (izg σ 2 6))) (rgI _ _ _); have : gI τ15 33 5 = gI σ 33 5 := gI_iz (Fr.it frτ15 rfl (FrG.it frτ6 rfl (izg σ 33 5))) (rgI _ _ _); omega) ⟨(fun k => by rw [(Fr.it frτ15 rfl rfl : hI τ15 3 k = hI τ6 3 k), (FrG.it frτ6 rfl rfl : hI τ6 3 k = hI σ 3 k), (Fr.it frτ15 rfl rfl : hI τ15 34 k = hI τ6 34 k), (FrG.it frτ6 rfl rfl : hI τ6 34 k = hI σ 34 k)]; exact K2.1 k), (fun k => by rw [(gI_eq (Fr.it frτ15 rfl rfl : hI τ15 8 k = hI τ6 8 k)), (gI_eq (FrG.it frτ6 rfl rfl : hI τ6 8 k = hI σ 8 k)), (gI_eq (Fr.it frτ15 rfl rfl : hI τ15 38 k = hI τ6 38 k)), (gI_eq (FrG.it frτ6 rfl rfl : hI τ6 38 k = hI σ 38 k))]; exact K2.2.1 k), srτ15⟩ clτ15 (by omega) (by omega)
  · refine z_iconst (pc := 637) (v := iz (1)) O dL_law_637 (by decide) ?_
    refine z_goto (pc := 638) (tgt := 642) O dL_law_638 (by decide) ?_
    refine z_callV (pc := 642) O cl_L_69 (k8_hurt5 _ _ ((γ.2.2.2.2.2.2.2 ((i + 1).toNat)).toInt) (by omega) ((γ.2.2.2.2.2.2.2 ((i + 2).toNat)).toInt) (by omega) w5 ((γ.2.2.2.2.2.2.2 ((i + 5).toNat)).toInt) (by omega) ((γ.2.2.2.2.2.2.2 ((i + 6).toNat)).toInt) (by omega) 1 (by omega) IX) (by decide) (jo_2 IX.1) kc_8 rfl rfl (Nat.le_of_ble_eq_true rfl) ⟨by rw [hrc]; omega, by rw [hrs]; omega⟩ dL_law_642 (fun r τ17 hp => ?_)
    obtain ⟨z18, rfl, fτ17_0, frτ17, ivτ17_InvX, eτ17_0⟩ := hp
    have imτ17 : InvM τ17 := InvM.cls frτ17 IM ivτ17_InvX.1 rfl
    have srτ17 : SRw τ17 := SRw.frW K2.2.2 frτ17 (fun _ => rfl) (fun _ => rfl)
    have clτ17 : Cl τ17 := Cl.mv K3 IX IM (fun k => (gI_eq (FrG.it frτ17 rfl rfl : hI τ17 36 k = hI σ 36 k))) (fun k => (gI_eq (FrG.it frτ17 rfl rfl : hI τ17 37 k = hI σ 37 k))) (fun k => (gI_eq (FrG.it frτ17 rfl rfl : hI τ17 38 k = hI σ 38 k))) (gI_eq (FrG.it frτ17 rfl rfl : hI τ17 33 33 = hI σ 33 33)) eτ17_0.2 eτ17_0.1
    refine z_pop (pc := 645) O dL_law_645 rfl ?_
    refine z_aload_n (pc := 646) O dL_law_646 rfl ?_
    refine z_aloadS (pc := 647) O dL_law_647 rfl ?_
    refine z_iload_n (pc := 648) O dL_law_648 rfl ?_
    refine z_iconst (pc := 649) (v := iz (1)) O dL_law_649 (by decide) ?_
    refine zi_iadd (pc := 650) O dL_law_650 ?_
    refine z_sld (pc := 651) ((i + 1).toNat) O (iz_nI (by omega)) (by rw [hLγ]; omega) (by rw [hLγ]; omega) dL_law_651 ?_
    refine zi_val _ (izi _) ?_
    have := rng (γ.2.2.2.2.2.2.2 ((i + 1).toNat))
    refine z_aloadS (pc := 652) O dL_law_652 rfl ?_
    refine z_iload_n (pc := 653) O dL_law_653 rfl ?_
    refine z_iconst (pc := 654) (v := iz (2)) O dL_law_654 (by decide) ?_
    refine zi_iadd (pc := 655) O dL_law_655 ?_
    refine z_sld (pc := 656) ((i + 2).toNat) O (iz_nI (by omega)) (by rw [hLγ]; omega) (by rw [hLγ]; omega) dL_law_656 ?_
    refine zi_val _ (izi _) ?_
    have := rng (γ.2.2.2.2.2.2.2 ((i + 2).toNat))
    refine z_aloadS (pc := 657) O dL_law_657 rfl ?_
    refine z_iload_n (pc := 658) O dL_law_658 rfl ?_
    refine z_iconst (pc := 659) (v := iz (3)) O dL_law_659 (by decide) ?_
    refine zi_iadd (pc := 660) O dL_law_660 ?_
    refine z_sld (pc := 661) ((i + 3).toNat) O (iz_nI (by omega)) (by rw [hLγ]; omega) (by rw [hLγ]; omega) dL_law_661 ?_
    refine zi_val _ (izi _) ?_
    have := rng (γ.2.2.2.2.2.2.2 ((i + 3).toNat))
    refine z_i2l (pc := 662) O dL_law_662 ?_
    refine z_topl (pc := 663) (fun w19 ew19 => ?_)
    refine z_bipush (pc := 663) (v := iz (32)) O dL_law_663 (by decide) ?_
    refine z_lshl (pc := 665) O dL_law_665 ?_
    refine z_topl (pc := 666) (fun w20 ew20 => ?_)
    refine z_aloadS (pc := 666) O dL_law_666 rfl ?_
    refine z_iload_n (pc := 667) O dL_law_667 rfl ?_
    refine z_iconst (pc := 668) (v := iz (4)) O dL_law_668 (by decide) ?_
    refine zi_iadd (pc := 669) O dL_law_669 ?_
    refine z_sld (pc := 670) ((i + 4).toNat) O (iz_nI (by omega)) (by rw [hLγ]; omega) (by rw [hLγ]; omega) dL_law_670 ?_
    refine zi_val _ (izi _) ?_
    have := rng (γ.2.2.2.2.2.2.2 ((i + 4).toNat))
    refine z_i2l (pc := 671) O dL_law_671 ?_
    refine z_topl (pc := 672) (fun w21 ew21 => ?_)
    refine z_ldc2 (pc := 672) O tw_1271 dL_law_672 ?_
    refine z_land (pc := 675) O dL_law_675 ?_
    refine z_topl (pc := 676) (fun w22 ew22 => ?_)
    refine z_lor (pc := 676) O dL_law_676 ?_
    refine z_topl (pc := 677) (fun w23 ew23 => ?_)
    refine z_aloadS (pc := 677) O dL_law_677 rfl ?_
    refine z_iload_n (pc := 678) O dL_law_678 rfl ?_
    refine z_iconst (pc := 679) (v := iz (5)) O dL_law_679 (by decide) ?_
    refine zi_iadd (pc := 680) O dL_law_680 ?_
    refine z_sld (pc := 681) ((i + 5).toNat) O (iz_nI (by omega)) (by rw [hLγ]; omega) (by rw [hLγ]; omega) dL_law_681 ?_
    refine zi_val _ (izi _) ?_
    have := rng (γ.2.2.2.2.2.2.2 ((i + 5).toNat))
    refine z_aloadS (pc := 682) O dL_law_682 rfl ?_
    refine z_iload_n (pc := 683) O dL_law_683 rfl ?_
    refine z_bipush (pc := 684) (v := iz (6)) O dL_law_684 (by decide) ?_
    refine zi_iadd (pc := 686) O dL_law_686 ?_
    refine z_sld (pc := 687) ((i + 6).toNat) O (iz_nI (by omega)) (by rw [hLγ]; omega) (by rw [hLγ]; omega) dL_law_687 ?_
    refine zi_val _ (izi _) ?_
    have := rng (γ.2.2.2.2.2.2.2 ((i + 6).toNat))
    refine z_aloadS (pc := 688) O dL_law_688 rfl ?_
    refine z_iload_n (pc := 689) O dL_law_689 rfl ?_
    refine z_bipush (pc := 690) (v := iz (7)) O dL_law_690 (by decide) ?_
    refine zi_iadd (pc := 692) O dL_law_692 ?_
    refine z_sld (pc := 693) ((i + 7).toNat) O (iz_nI (by omega)) (by rw [hLγ]; omega) (by rw [hLγ]; omega) dL_law_693 ?_
    refine zi_val _ (izi _) ?_
    have := rng (γ.2.2.2.2.2.2.2 ((i + 7).toNat))
    refine zi_if_eq (pc := 694) (tgt := 701) O dL_law_694 (by decide) (by omega) (fun h694 => ?_) (fun h694 => ?_)
    · refine z_iconst (pc := 701) (v := iz (0)) O dL_law_701 (by decide) ?_
      refine z_callV (pc := 702) O cl_L_73 (k9_hurt _ _ ((γ.2.2.2.2.2.2.2 ((i + 1).toNat)).toInt) (by omega) ((γ.2.2.2.2.2.2.2 ((i + 2).toNat)).toInt) (by omega) w23 ((γ.2.2.2.2.2.2.2 ((i + 5).toNat)).toInt) (by omega) ((γ.2.2.2.2.2.2.2 ((i + 6).toNat)).toInt) (by omega) 0 (by omega) imτ17) (by decide) (jo_33 ivτ17_InvX.1) kc_9 rfl rfl (Nat.le_of_ble_eq_true rfl) ⟨by rw [hrc]; omega, by rw [hrs]; omega⟩ dL_law_702 (fun r τ24 hp => ?_)
      obtain ⟨z25, rfl, fτ24_0, frτ24, ivτ24_InvM⟩ := hp
      have ixτ24 : InvX τ24 := InvX.mod frτ24 ivτ17_InvX rfl
      have srτ24 : SRw τ24 := SRw.frW srτ17 frτ24.G (fun _ => rfl) (fun _ => rfl)
      have clτ24 : Cl τ24 := Cl.mv clτ17 ivτ17_InvX imτ17 (fun k => (gI_eq (Fr.it frτ24 rfl rfl : hI τ24 36 k = hI τ17 36 k))) (fun k => (gI_eq (Fr.it frτ24 rfl rfl : hI τ24 37 k = hI τ17 37 k))) (fun k => (gI_eq (Fr.it frτ24 rfl rfl : hI τ24 38 k = hI τ17 38 k))) (gI_eq (Fr.it frτ24 rfl rfl : hI τ24 33 33 = hI τ17 33 33)) (fun j => by rw [frτ24.2.2.1]) (Old.fr frτ24)
      refine z_pop (pc := 705) O dL_law_705 rfl ?_
      refine z_goto (pc := 706) (tgt := 1049) O dL_law_706 (by decide) ?_
      exact fin τ24 _ _ ixτ24 ivτ24_InvM (by unfold Cp; have : gI τ24 2 15 = gI σ 2 15 := gI_iz (Fr.it frτ24 rfl (FrG.it frτ17 rfl (izg σ 2 15))) (rgI _ _ _); have : gI τ24 33 73 = gI σ 33 73 := gI_iz (Fr.it frτ24 rfl (FrG.it frτ17 rfl (izg σ 33 73))) (rgI _ _ _); have : gI τ24 2 7 = gI σ 2 7 := gI_iz (Fr.it frτ24 rfl (FrG.it frτ17 rfl (izg σ 2 7))) (rgI _ _ _); have : gI τ24 33 6 = gI σ 33 6 := gI_iz (Fr.it frτ24 rfl (FrG.it frτ17 rfl (izg σ 33 6))) (rgI _ _ _); have : gI τ24 21 4 = gI σ 21 4 := gI_iz (Fr.it frτ24 rfl (FrG.it frτ17 rfl (izg σ 21 4))) (rgI _ _ _); have : gI τ24 33 54 = gI σ 33 54 := gI_iz (Fr.it frτ24 rfl (FrG.it frτ17 rfl (izg σ 33 54))) (rgI _ _ _); have : gI τ24 9 7 = gI σ 9 7 := gI_iz (Fr.it frτ24 rfl (FrG.it frτ17 rfl (izg σ 9 7))) (rgI _ _ _); have : gI τ24 33 52 = gI σ 33 52 := gI_iz (Fr.it frτ24 rfl (FrG.it frτ17 rfl (izg σ 33 52))) (rgI _ _ _); have : gI τ24 16 4 = gI σ 16 4 := gI_iz (Fr.it frτ24 rfl (FrG.it frτ17 rfl (izg σ 16 4))) (rgI _ _ _); have : gI τ24 33 53 = gI σ 33 53 := gI_iz (Fr.it frτ24 rfl (FrG.it frτ17 rfl (izg σ 33 53))) (rgI _ _ _); have : gI τ24 2 1 = gI σ 2 1 := gI_iz (Fr.it frτ24 rfl (FrG.it frτ17 rfl (izg σ 2 1))) (rgI _ _ _); have : gI τ24 33 2 = gI σ 33 2 := gI_iz (Fr.it frτ24 rfl (FrG.it frτ17 rfl (izg σ 33 2))) (rgI _ _ _); have : gI τ24 2 5 = gI σ 2 5 := gI_iz (Fr.it frτ24 rfl (FrG.it frτ17 rfl (izg σ 2 5))) (rgI _ _ _); have : gI τ24 33 4 = gI σ 33 4 := gI_iz (Fr.it frτ24 rfl (FrG.it frτ17 rfl (izg σ 33 4))) (rgI _ _ _); have : gI τ24 2 6 = gI σ 2 6 := gI_iz (Fr.it frτ24 rfl (FrG.it frτ17 rfl (izg σ 2 6))) (rgI _ _ _); have : gI τ24 33 5 = gI σ 33 5 := gI_iz (Fr.it frτ24 rfl (FrG.it frτ17 rfl (izg σ 33 5))) (rgI _ _ _); omega) ⟨(fun k => by rw [(Fr.it frτ24 rfl rfl : hI τ24 3 k = hI τ17 3 k), (FrG.it frτ17 rfl rfl : hI τ17 3 k = hI σ 3 k), (Fr.it frτ24 rfl rfl : hI τ24 34 k = hI τ17 34 k), (FrG.it frτ17 rfl rfl : hI τ17 34 k = hI σ 34 k)]; exact K2.1 k), (fun k => by rw [(gI_eq (Fr.it frτ24 rfl rfl : hI τ24 8 k = hI τ17 8 k)), (gI_eq (FrG.it frτ17 rfl rfl : hI τ17 8 k = hI σ 8 k)), (gI_eq (Fr.it frτ24 rfl rfl : hI τ24 38 k = hI τ17 38 k)), (gI_eq (FrG.it frτ17 rfl rfl : hI τ17 38 k = hI σ 38 k))]; exact K2.2.1 k), srτ24⟩ clτ24 (by omega) (by omega)
    · refine z_iconst (pc := 697) (v := iz (1)) O dL_law_697 (by decide) ?_
      refine z_goto (pc := 698) (tgt := 702) O dL_law_698 (by decide) ?_
      refine z_callV (pc := 702) O cl_L_73 (k9_hurt _ _ ((γ.2.2.2.2.2.2.2 ((i + 1).toNat)).toInt) (by omega) ((γ.2.2.2.2.2.2.2 ((i + 2).toNat)).toInt) (by omega) w23 ((γ.2.2.2.2.2.2.2 ((i + 5).toNat)).toInt) (by omega) ((γ.2.2.2.2.2.2.2 ((i + 6).toNat)).toInt) (by omega) 1 (by omega) imτ17) (by decide) (jo_33 ivτ17_InvX.1) kc_9 rfl rfl (Nat.le_of_ble_eq_true rfl) ⟨by rw [hrc]; omega, by rw [hrs]; omega⟩ dL_law_702 (fun r τ26 hp => ?_)
      obtain ⟨z27, rfl, fτ26_0, frτ26, ivτ26_InvM⟩ := hp
      have ixτ26 : InvX τ26 := InvX.mod frτ26 ivτ17_InvX rfl
      have srτ26 : SRw τ26 := SRw.frW srτ17 frτ26.G (fun _ => rfl) (fun _ => rfl)
      have clτ26 : Cl τ26 := Cl.mv clτ17 ivτ17_InvX imτ17 (fun k => (gI_eq (Fr.it frτ26 rfl rfl : hI τ26 36 k = hI τ17 36 k))) (fun k => (gI_eq (Fr.it frτ26 rfl rfl : hI τ26 37 k = hI τ17 37 k))) (fun k => (gI_eq (Fr.it frτ26 rfl rfl : hI τ26 38 k = hI τ17 38 k))) (gI_eq (Fr.it frτ26 rfl rfl : hI τ26 33 33 = hI τ17 33 33)) (fun j => by rw [frτ26.2.2.1]) (Old.fr frτ26)
      refine z_pop (pc := 705) O dL_law_705 rfl ?_
      refine z_goto (pc := 706) (tgt := 1049) O dL_law_706 (by decide) ?_
      exact fin τ26 _ _ ixτ26 ivτ26_InvM (by unfold Cp; have : gI τ26 2 15 = gI σ 2 15 := gI_iz (Fr.it frτ26 rfl (FrG.it frτ17 rfl (izg σ 2 15))) (rgI _ _ _); have : gI τ26 33 73 = gI σ 33 73 := gI_iz (Fr.it frτ26 rfl (FrG.it frτ17 rfl (izg σ 33 73))) (rgI _ _ _); have : gI τ26 2 7 = gI σ 2 7 := gI_iz (Fr.it frτ26 rfl (FrG.it frτ17 rfl (izg σ 2 7))) (rgI _ _ _); have : gI τ26 33 6 = gI σ 33 6 := gI_iz (Fr.it frτ26 rfl (FrG.it frτ17 rfl (izg σ 33 6))) (rgI _ _ _); have : gI τ26 21 4 = gI σ 21 4 := gI_iz (Fr.it frτ26 rfl (FrG.it frτ17 rfl (izg σ 21 4))) (rgI _ _ _); have : gI τ26 33 54 = gI σ 33 54 := gI_iz (Fr.it frτ26 rfl (FrG.it frτ17 rfl (izg σ 33 54))) (rgI _ _ _); have : gI τ26 9 7 = gI σ 9 7 := gI_iz (Fr.it frτ26 rfl (FrG.it frτ17 rfl (izg σ 9 7))) (rgI _ _ _); have : gI τ26 33 52 = gI σ 33 52 := gI_iz (Fr.it frτ26 rfl (FrG.it frτ17 rfl (izg σ 33 52))) (rgI _ _ _); have : gI τ26 16 4 = gI σ 16 4 := gI_iz (Fr.it frτ26 rfl (FrG.it frτ17 rfl (izg σ 16 4))) (rgI _ _ _); have : gI τ26 33 53 = gI σ 33 53 := gI_iz (Fr.it frτ26 rfl (FrG.it frτ17 rfl (izg σ 33 53))) (rgI _ _ _); have : gI τ26 2 1 = gI σ 2 1 := gI_iz (Fr.it frτ26 rfl (FrG.it frτ17 rfl (izg σ 2 1))) (rgI _ _ _); have : gI τ26 33 2 = gI σ 33 2 := gI_iz (Fr.it frτ26 rfl (FrG.it frτ17 rfl (izg σ 33 2))) (rgI _ _ _); have : gI τ26 2 5 = gI σ 2 5 := gI_iz (Fr.it frτ26 rfl (FrG.it frτ17 rfl (izg σ 2 5))) (rgI _ _ _); have : gI τ26 33 4 = gI σ 33 4 := gI_iz (Fr.it frτ26 rfl (FrG.it frτ17 rfl (izg σ 33 4))) (rgI _ _ _); have : gI τ26 2 6 = gI σ 2 6 := gI_iz (Fr.it frτ26 rfl (FrG.it frτ17 rfl (izg σ 2 6))) (rgI _ _ _); have : gI τ26 33 5 = gI σ 33 5 := gI_iz (Fr.it frτ26 rfl (FrG.it frτ17 rfl (izg σ 33 5))) (rgI _ _ _); omega) ⟨(fun k => by rw [(Fr.it frτ26 rfl rfl : hI τ26 3 k = hI τ17 3 k), (FrG.it frτ17 rfl rfl : hI τ17 3 k = hI σ 3 k), (Fr.it frτ26 rfl rfl : hI τ26 34 k = hI τ17 34 k), (FrG.it frτ17 rfl rfl : hI τ17 34 k = hI σ 34 k)]; exact K2.1 k), (fun k => by rw [(gI_eq (Fr.it frτ26 rfl rfl : hI τ26 8 k = hI τ17 8 k)), (gI_eq (FrG.it frτ17 rfl rfl : hI τ17 8 k = hI σ 8 k)), (gI_eq (Fr.it frτ26 rfl rfl : hI τ26 38 k = hI τ17 38 k)), (gI_eq (FrG.it frτ17 rfl rfl : hI τ17 38 k = hI σ 38 k))]; exact K2.2.1 k), srτ26⟩ clτ26 (by omega) (by omega)
set_option maxHeartbeats 4000000 in
set_option maxRecDepth 20000 in
theorem g_case13 (κ : Kx) (γ : Gh) (Q : State → Prop) (nm : String) (O : OK κ γ code 4 "BloodPriceLaw" 2000 ret nm) (hrc : κ.2.2.2.1.cells = 600000) (hrs : κ.2.2.2.1.slots = 7302250) (L : Nat) (hLγ : γ.2.2.2.2.2.2.1 = L) (hL : L ≤ 4096) (i : Int) (hi : 0 ≤ i ∧ i + 8 ≤ L) (σ : VH) (cells slots : Nat) (hc : cells ≤ 500000) (hs : slots ≤ 7000000) (IX : InvX σ) (IM : InvM σ) (K : Cp σ) (K2 : Cxt σ) (K3 : Cl σ) (fin : ∀ (τ : VH) (c s : Nat), InvX τ → InvM τ → Cp τ → Cxt τ → Cl τ → c ≤ cells + 10 → s ≤ slots + 863 → Z κ γ 4 τ c s Q 1049 [(0, .float 0), (1, .ref 2), (2, .ref 33), (3, .int (iz i))] []) : Z κ γ 4 σ cells slots Q 709 [(0, .float 0), (1, .ref 2), (2, .ref 33), (3, .int (iz i))] [] := by
  unfold Cp at K
  have ix1 := IX.2.1
  unfold InvX1 at ix1
  have im1 := IM.2.1
  unfold InvM1 at im1
  refine z_aload_n (pc := 709) O dL_law_709 rfl ?_
  refine z_aloadS (pc := 710) O dL_law_710 rfl ?_
  refine z_iload_n (pc := 711) O dL_law_711 rfl ?_
  refine z_iconst (pc := 712) (v := iz (1)) O dL_law_712 (by decide) ?_
  refine zi_iadd (pc := 713) O dL_law_713 ?_
  refine z_sld (pc := 714) ((i + 1).toNat) O (iz_nI (by omega)) (by rw [hLγ]; omega) (by rw [hLγ]; omega) dL_law_714 ?_
  refine zi_val _ (izi _) ?_
  have := rng (γ.2.2.2.2.2.2.2 ((i + 1).toNat))
  refine z_aloadS (pc := 715) O dL_law_715 rfl ?_
  refine z_iload_n (pc := 716) O dL_law_716 rfl ?_
  refine z_iconst (pc := 717) (v := iz (2)) O dL_law_717 (by decide) ?_
  refine zi_iadd (pc := 718) O dL_law_718 ?_
  refine z_sld (pc := 719) ((i + 2).toNat) O (iz_nI (by omega)) (by rw [hLγ]; omega) (by rw [hLγ]; omega) dL_law_719 ?_
  refine zi_val _ (izi _) ?_
  have := rng (γ.2.2.2.2.2.2.2 ((i + 2).toNat))
  refine z_callV (pc := 720) O cl_L_74 (k8_sum _ _ ((γ.2.2.2.2.2.2.2 ((i + 1).toNat)).toInt) (by omega) ((γ.2.2.2.2.2.2.2 ((i + 2).toNat)).toInt) (by omega) IX) (by decide) (jo_2 IX.1) kc_8 rfl rfl (Nat.le_of_ble_eq_true rfl) ⟨by rw [hrc]; omega, by rw [hrs]; omega⟩ dL_law_720 (fun r τ1 hp => ?_)
  obtain ⟨z2, rfl, fτ1_0, frτ1, ivτ1_InvX⟩ := hp
  have imτ1 : InvM τ1 := InvM.cls frτ1.G IM ivτ1_InvX.1 rfl
  have srτ1 : SRw τ1 := SRw.frW K2.2.2 frτ1.G (fun _ => rfl) (fun _ => rfl)
  have clτ1 : Cl τ1 := Cl.mv K3 IX IM (fun k => (gI_eq (Fr.it frτ1 rfl rfl : hI τ1 36 k = hI σ 36 k))) (fun k => (gI_eq (Fr.it frτ1 rfl rfl : hI τ1 37 k = hI σ 37 k))) (fun k => (gI_eq (Fr.it frτ1 rfl rfl : hI τ1 38 k = hI σ 38 k))) (gI_eq (Fr.it frτ1 rfl rfl : hI τ1 33 33 = hI σ 33 33)) (fun j => by rw [frτ1.2.2.1]) (Old.fr frτ1)
  refine z_pop (pc := 723) O dL_law_723 rfl ?_
  refine z_aload_n (pc := 724) O dL_law_724 rfl ?_
  refine z_aloadS (pc := 725) O dL_law_725 rfl ?_
  refine z_iload_n (pc := 726) O dL_law_726 rfl ?_
  refine z_iconst (pc := 727) (v := iz (1)) O dL_law_727 (by decide) ?_
  refine zi_iadd (pc := 728) O dL_law_728 ?_
  refine z_sld (pc := 729) ((i + 1).toNat) O (iz_nI (by omega)) (by rw [hLγ]; omega) (by rw [hLγ]; omega) dL_law_729 ?_
  refine zi_val _ (izi _) ?_
  have := rng (γ.2.2.2.2.2.2.2 ((i + 1).toNat))
  refine z_aloadS (pc := 730) O dL_law_730 rfl ?_
  refine z_iload_n (pc := 731) O dL_law_731 rfl ?_
  refine z_iconst (pc := 732) (v := iz (2)) O dL_law_732 (by decide) ?_
  refine zi_iadd (pc := 733) O dL_law_733 ?_
  refine z_sld (pc := 734) ((i + 2).toNat) O (iz_nI (by omega)) (by rw [hLγ]; omega) (by rw [hLγ]; omega) dL_law_734 ?_
  refine zi_val _ (izi _) ?_
  have := rng (γ.2.2.2.2.2.2.2 ((i + 2).toNat))
  refine z_callV (pc := 735) O cl_L_77 (k9_sum _ _ ((γ.2.2.2.2.2.2.2 ((i + 1).toNat)).toInt) (by omega) ((γ.2.2.2.2.2.2.2 ((i + 2).toNat)).toInt) (by omega) imτ1) (by decide) (jo_33 (frτ1.lay IX.1)) kc_9 rfl rfl (Nat.le_of_ble_eq_true rfl) ⟨by rw [hrc]; omega, by rw [hrs]; omega⟩ dL_law_735 (fun r τ3 hp => ?_)
  obtain ⟨z4, rfl, fτ3_0, frτ3, ivτ3_InvM⟩ := hp
  have ixτ3 : InvX τ3 := InvX.mod frτ3 ivτ1_InvX rfl
  have srτ3 : SRw τ3 := SRw.frW srτ1 frτ3.G (fun _ => rfl) (fun _ => rfl)
  have clτ3 : Cl τ3 := Cl.mv clτ1 ivτ1_InvX imτ1 (fun k => (gI_eq (Fr.it frτ3 rfl rfl : hI τ3 36 k = hI τ1 36 k))) (fun k => (gI_eq (Fr.it frτ3 rfl rfl : hI τ3 37 k = hI τ1 37 k))) (fun k => (gI_eq (Fr.it frτ3 rfl rfl : hI τ3 38 k = hI τ1 38 k))) (gI_eq (Fr.it frτ3 rfl rfl : hI τ3 33 33 = hI τ1 33 33)) (fun j => by rw [frτ3.2.2.1]) (Old.fr frτ3)
  refine z_pop (pc := 738) O dL_law_738 rfl ?_
  refine z_goto (pc := 739) (tgt := 1049) O dL_law_739 (by decide) ?_
  exact fin τ3 _ _ ixτ3 ivτ3_InvM (by unfold Cp; have : gI τ3 2 15 = gI σ 2 15 := gI_iz (Fr.it frτ3 rfl (Fr.it frτ1 rfl (izg σ 2 15))) (rgI _ _ _); have : gI τ3 33 73 = gI σ 33 73 := gI_iz (Fr.it frτ3 rfl (Fr.it frτ1 rfl (izg σ 33 73))) (rgI _ _ _); have : gI τ3 2 7 = gI σ 2 7 := gI_iz (Fr.it frτ3 rfl (Fr.it frτ1 rfl (izg σ 2 7))) (rgI _ _ _); have : gI τ3 33 6 = gI σ 33 6 := gI_iz (Fr.it frτ3 rfl (Fr.it frτ1 rfl (izg σ 33 6))) (rgI _ _ _); have : gI τ3 21 4 = gI σ 21 4 := gI_iz (Fr.it frτ3 rfl (Fr.it frτ1 rfl (izg σ 21 4))) (rgI _ _ _); have : gI τ3 33 54 = gI σ 33 54 := gI_iz (Fr.it frτ3 rfl (Fr.it frτ1 rfl (izg σ 33 54))) (rgI _ _ _); have : gI τ3 9 7 = gI σ 9 7 := gI_iz (Fr.it frτ3 rfl (Fr.it frτ1 rfl (izg σ 9 7))) (rgI _ _ _); have : gI τ3 33 52 = gI σ 33 52 := gI_iz (Fr.it frτ3 rfl (Fr.it frτ1 rfl (izg σ 33 52))) (rgI _ _ _); have : gI τ3 16 4 = gI σ 16 4 := gI_iz (Fr.it frτ3 rfl (Fr.it frτ1 rfl (izg σ 16 4))) (rgI _ _ _); have : gI τ3 33 53 = gI σ 33 53 := gI_iz (Fr.it frτ3 rfl (Fr.it frτ1 rfl (izg σ 33 53))) (rgI _ _ _); have : gI τ3 2 1 = gI σ 2 1 := gI_iz (Fr.it frτ3 rfl (Fr.it frτ1 rfl (izg σ 2 1))) (rgI _ _ _); have : gI τ3 33 2 = gI σ 33 2 := gI_iz (Fr.it frτ3 rfl (Fr.it frτ1 rfl (izg σ 33 2))) (rgI _ _ _); have : gI τ3 2 5 = gI σ 2 5 := gI_iz (Fr.it frτ3 rfl (Fr.it frτ1 rfl (izg σ 2 5))) (rgI _ _ _); have : gI τ3 33 4 = gI σ 33 4 := gI_iz (Fr.it frτ3 rfl (Fr.it frτ1 rfl (izg σ 33 4))) (rgI _ _ _); have : gI τ3 2 6 = gI σ 2 6 := gI_iz (Fr.it frτ3 rfl (Fr.it frτ1 rfl (izg σ 2 6))) (rgI _ _ _); have : gI τ3 33 5 = gI σ 33 5 := gI_iz (Fr.it frτ3 rfl (Fr.it frτ1 rfl (izg σ 33 5))) (rgI _ _ _); omega) ⟨(fun k => by rw [(Fr.it frτ3 rfl rfl : hI τ3 3 k = hI τ1 3 k), (Fr.it frτ1 rfl rfl : hI τ1 3 k = hI σ 3 k), (Fr.it frτ3 rfl rfl : hI τ3 34 k = hI τ1 34 k), (Fr.it frτ1 rfl rfl : hI τ1 34 k = hI σ 34 k)]; exact K2.1 k), (fun k => by rw [(gI_eq (Fr.it frτ3 rfl rfl : hI τ3 8 k = hI τ1 8 k)), (gI_eq (Fr.it frτ1 rfl rfl : hI τ1 8 k = hI σ 8 k)), (gI_eq (Fr.it frτ3 rfl rfl : hI τ3 38 k = hI τ1 38 k)), (gI_eq (Fr.it frτ1 rfl rfl : hI τ1 38 k = hI σ 38 k))]; exact K2.2.1 k), srτ3⟩ clτ3 (by omega) (by omega)
set_option maxHeartbeats 4000000 in
set_option maxRecDepth 20000 in
theorem g_case14 (κ : Kx) (γ : Gh) (Q : State → Prop) (nm : String) (O : OK κ γ code 4 "BloodPriceLaw" 2000 ret nm) (hrc : κ.2.2.2.1.cells = 600000) (hrs : κ.2.2.2.1.slots = 7302250) (L : Nat) (hLγ : γ.2.2.2.2.2.2.1 = L) (hL : L ≤ 4096) (i : Int) (hi : 0 ≤ i ∧ i + 8 ≤ L) (σ : VH) (cells slots : Nat) (hc : cells ≤ 500000) (hs : slots ≤ 7000000) (IX : InvX σ) (IM : InvM σ) (K : Cp σ) (K2 : Cxt σ) (K3 : Cl σ) (fin : ∀ (τ : VH) (c s : Nat), InvX τ → InvM τ → Cp τ → Cxt τ → Cl τ → c ≤ cells + 10 → s ≤ slots + 863 → Z κ γ 4 τ c s Q 1049 [(0, .float 0), (1, .ref 2), (2, .ref 33), (3, .int (iz i))] []) : Z κ γ 4 σ cells slots Q 742 [(0, .float 0), (1, .ref 2), (2, .ref 33), (3, .int (iz i))] [] := by
  unfold Cp at K
  have ix1 := IX.2.1
  unfold InvX1 at ix1
  have im1 := IM.2.1
  unfold InvM1 at im1
  refine z_aload_n (pc := 742) O dL_law_742 rfl ?_
  refine z_aloadS (pc := 743) O dL_law_743 rfl ?_
  refine z_iload_n (pc := 744) O dL_law_744 rfl ?_
  refine z_iconst (pc := 745) (v := iz (1)) O dL_law_745 (by decide) ?_
  refine zi_iadd (pc := 746) O dL_law_746 ?_
  refine z_sld (pc := 747) ((i + 1).toNat) O (iz_nI (by omega)) (by rw [hLγ]; omega) (by rw [hLγ]; omega) dL_law_747 ?_
  refine zi_val _ (izi _) ?_
  have := rng (γ.2.2.2.2.2.2.2 ((i + 1).toNat))
  refine z_aloadS (pc := 748) O dL_law_748 rfl ?_
  refine z_iload_n (pc := 749) O dL_law_749 rfl ?_
  refine z_iconst (pc := 750) (v := iz (2)) O dL_law_750 (by decide) ?_
  refine zi_iadd (pc := 751) O dL_law_751 ?_
  refine z_sld (pc := 752) ((i + 2).toNat) O (iz_nI (by omega)) (by rw [hLγ]; omega) (by rw [hLγ]; omega) dL_law_752 ?_
  refine zi_val _ (izi _) ?_
  have := rng (γ.2.2.2.2.2.2.2 ((i + 2).toNat))
  refine z_callV (pc := 753) O cl_L_78 (k8_oath _ _ ((γ.2.2.2.2.2.2.2 ((i + 1).toNat)).toInt) (by omega) ((γ.2.2.2.2.2.2.2 ((i + 2).toNat)).toInt) (by omega) IX) (by decide) (jo_2 IX.1) kc_8 rfl rfl (Nat.le_of_ble_eq_true rfl) ⟨by rw [hrc]; omega, by rw [hrs]; omega⟩ dL_law_753 (fun r τ1 hp => ?_)
  obtain ⟨z2, rfl, fτ1_0, frτ1, ivτ1_InvX⟩ := hp
  have imτ1 : InvM τ1 := InvM.cls frτ1.G IM ivτ1_InvX.1 rfl
  have srτ1 : SRw τ1 := SRw.frW K2.2.2 frτ1.G (fun _ => rfl) (fun _ => rfl)
  have clτ1 : Cl τ1 := Cl.mv K3 IX IM (fun k => (gI_eq (Fr.it frτ1 rfl rfl : hI τ1 36 k = hI σ 36 k))) (fun k => (gI_eq (Fr.it frτ1 rfl rfl : hI τ1 37 k = hI σ 37 k))) (fun k => (gI_eq (Fr.it frτ1 rfl rfl : hI τ1 38 k = hI σ 38 k))) (gI_eq (Fr.it frτ1 rfl rfl : hI τ1 33 33 = hI σ 33 33)) (fun j => by rw [frτ1.2.2.1]) (Old.fr frτ1)
  refine z_pop (pc := 756) O dL_law_756 rfl ?_
  refine z_aload_n (pc := 757) O dL_law_757 rfl ?_
  refine z_aloadS (pc := 758) O dL_law_758 rfl ?_
  refine z_iload_n (pc := 759) O dL_law_759 rfl ?_
  refine z_iconst (pc := 760) (v := iz (1)) O dL_law_760 (by decide) ?_
  refine zi_iadd (pc := 761) O dL_law_761 ?_
  refine z_sld (pc := 762) ((i + 1).toNat) O (iz_nI (by omega)) (by rw [hLγ]; omega) (by rw [hLγ]; omega) dL_law_762 ?_
  refine zi_val _ (izi _) ?_
  have := rng (γ.2.2.2.2.2.2.2 ((i + 1).toNat))
  refine z_aloadS (pc := 763) O dL_law_763 rfl ?_
  refine z_iload_n (pc := 764) O dL_law_764 rfl ?_
  refine z_iconst (pc := 765) (v := iz (2)) O dL_law_765 (by decide) ?_
  refine zi_iadd (pc := 766) O dL_law_766 ?_
  refine z_sld (pc := 767) ((i + 2).toNat) O (iz_nI (by omega)) (by rw [hLγ]; omega) (by rw [hLγ]; omega) dL_law_767 ?_
  refine zi_val _ (izi _) ?_
  have := rng (γ.2.2.2.2.2.2.2 ((i + 2).toNat))
  refine z_callV (pc := 768) O cl_L_81 (k9_oath _ _ ((γ.2.2.2.2.2.2.2 ((i + 1).toNat)).toInt) (by omega) ((γ.2.2.2.2.2.2.2 ((i + 2).toNat)).toInt) (by omega) imτ1) (by decide) (jo_33 (frτ1.lay IX.1)) kc_9 rfl rfl (Nat.le_of_ble_eq_true rfl) ⟨by rw [hrc]; omega, by rw [hrs]; omega⟩ dL_law_768 (fun r τ3 hp => ?_)
  obtain ⟨z4, rfl, fτ3_0, frτ3, ivτ3_InvM⟩ := hp
  have ixτ3 : InvX τ3 := InvX.mod frτ3 ivτ1_InvX rfl
  have srτ3 : SRw τ3 := SRw.frW srτ1 frτ3.G (fun _ => rfl) (fun _ => rfl)
  have clτ3 : Cl τ3 := Cl.mv clτ1 ivτ1_InvX imτ1 (fun k => (gI_eq (Fr.it frτ3 rfl rfl : hI τ3 36 k = hI τ1 36 k))) (fun k => (gI_eq (Fr.it frτ3 rfl rfl : hI τ3 37 k = hI τ1 37 k))) (fun k => (gI_eq (Fr.it frτ3 rfl rfl : hI τ3 38 k = hI τ1 38 k))) (gI_eq (Fr.it frτ3 rfl rfl : hI τ3 33 33 = hI τ1 33 33)) (fun j => by rw [frτ3.2.2.1]) (Old.fr frτ3)
  refine z_pop (pc := 771) O dL_law_771 rfl ?_
  refine z_goto (pc := 772) (tgt := 1049) O dL_law_772 (by decide) ?_
  exact fin τ3 _ _ ixτ3 ivτ3_InvM (by unfold Cp; have : gI τ3 2 15 = gI σ 2 15 := gI_iz (Fr.it frτ3 rfl (Fr.it frτ1 rfl (izg σ 2 15))) (rgI _ _ _); have : gI τ3 33 73 = gI σ 33 73 := gI_iz (Fr.it frτ3 rfl (Fr.it frτ1 rfl (izg σ 33 73))) (rgI _ _ _); have : gI τ3 2 7 = gI σ 2 7 := gI_iz (Fr.it frτ3 rfl (Fr.it frτ1 rfl (izg σ 2 7))) (rgI _ _ _); have : gI τ3 33 6 = gI σ 33 6 := gI_iz (Fr.it frτ3 rfl (Fr.it frτ1 rfl (izg σ 33 6))) (rgI _ _ _); have : gI τ3 21 4 = gI σ 21 4 := gI_iz (Fr.it frτ3 rfl (Fr.it frτ1 rfl (izg σ 21 4))) (rgI _ _ _); have : gI τ3 33 54 = gI σ 33 54 := gI_iz (Fr.it frτ3 rfl (Fr.it frτ1 rfl (izg σ 33 54))) (rgI _ _ _); have : gI τ3 9 7 = gI σ 9 7 := gI_iz (Fr.it frτ3 rfl (Fr.it frτ1 rfl (izg σ 9 7))) (rgI _ _ _); have : gI τ3 33 52 = gI σ 33 52 := gI_iz (Fr.it frτ3 rfl (Fr.it frτ1 rfl (izg σ 33 52))) (rgI _ _ _); have : gI τ3 16 4 = gI σ 16 4 := gI_iz (Fr.it frτ3 rfl (Fr.it frτ1 rfl (izg σ 16 4))) (rgI _ _ _); have : gI τ3 33 53 = gI σ 33 53 := gI_iz (Fr.it frτ3 rfl (Fr.it frτ1 rfl (izg σ 33 53))) (rgI _ _ _); have : gI τ3 2 1 = gI σ 2 1 := gI_iz (Fr.it frτ3 rfl (Fr.it frτ1 rfl (izg σ 2 1))) (rgI _ _ _); have : gI τ3 33 2 = gI σ 33 2 := gI_iz (Fr.it frτ3 rfl (Fr.it frτ1 rfl (izg σ 33 2))) (rgI _ _ _); have : gI τ3 2 5 = gI σ 2 5 := gI_iz (Fr.it frτ3 rfl (Fr.it frτ1 rfl (izg σ 2 5))) (rgI _ _ _); have : gI τ3 33 4 = gI σ 33 4 := gI_iz (Fr.it frτ3 rfl (Fr.it frτ1 rfl (izg σ 33 4))) (rgI _ _ _); have : gI τ3 2 6 = gI σ 2 6 := gI_iz (Fr.it frτ3 rfl (Fr.it frτ1 rfl (izg σ 2 6))) (rgI _ _ _); have : gI τ3 33 5 = gI σ 33 5 := gI_iz (Fr.it frτ3 rfl (Fr.it frτ1 rfl (izg σ 33 5))) (rgI _ _ _); omega) ⟨(fun k => by rw [(Fr.it frτ3 rfl rfl : hI τ3 3 k = hI τ1 3 k), (Fr.it frτ1 rfl rfl : hI τ1 3 k = hI σ 3 k), (Fr.it frτ3 rfl rfl : hI τ3 34 k = hI τ1 34 k), (Fr.it frτ1 rfl rfl : hI τ1 34 k = hI σ 34 k)]; exact K2.1 k), (fun k => by rw [(gI_eq (Fr.it frτ3 rfl rfl : hI τ3 8 k = hI τ1 8 k)), (gI_eq (Fr.it frτ1 rfl rfl : hI τ1 8 k = hI σ 8 k)), (gI_eq (Fr.it frτ3 rfl rfl : hI τ3 38 k = hI τ1 38 k)), (gI_eq (Fr.it frτ1 rfl rfl : hI τ1 38 k = hI σ 38 k))]; exact K2.2.1 k), srτ3⟩ clτ3 (by omega) (by omega)
set_option maxHeartbeats 4000000 in
set_option maxRecDepth 20000 in
theorem g_case15 (κ : Kx) (γ : Gh) (Q : State → Prop) (nm : String) (O : OK κ γ code 4 "BloodPriceLaw" 2000 ret nm) (hrc : κ.2.2.2.1.cells = 600000) (hrs : κ.2.2.2.1.slots = 7302250) (L : Nat) (hLγ : γ.2.2.2.2.2.2.1 = L) (hL : L ≤ 4096) (i : Int) (hi : 0 ≤ i ∧ i + 8 ≤ L) (σ : VH) (cells slots : Nat) (hc : cells ≤ 500000) (hs : slots ≤ 7000000) (IX : InvX σ) (IM : InvM σ) (K : Cp σ) (K2 : Cxt σ) (K3 : Cl σ) (fin : ∀ (τ : VH) (c s : Nat), InvX τ → InvM τ → Cp τ → Cxt τ → Cl τ → c ≤ cells + 10 → s ≤ slots + 863 → Z κ γ 4 τ c s Q 1049 [(0, .float 0), (1, .ref 2), (2, .ref 33), (3, .int (iz i))] []) : Z κ γ 4 σ cells slots Q 775 [(0, .float 0), (1, .ref 2), (2, .ref 33), (3, .int (iz i))] [] := by
  unfold Cp at K
  have ix1 := IX.2.1
  unfold InvX1 at ix1
  have im1 := IM.2.1
  unfold InvM1 at im1
  refine z_aload_n (pc := 775) O dL_law_775 rfl ?_
  refine z_aloadS (pc := 776) O dL_law_776 rfl ?_
  refine z_iload_n (pc := 777) O dL_law_777 rfl ?_
  refine z_iconst (pc := 778) (v := iz (1)) O dL_law_778 (by decide) ?_
  refine zi_iadd (pc := 779) O dL_law_779 ?_
  refine z_sld (pc := 780) ((i + 1).toNat) O (iz_nI (by omega)) (by rw [hLγ]; omega) (by rw [hLγ]; omega) dL_law_780 ?_
  refine zi_val _ (izi _) ?_
  have := rng (γ.2.2.2.2.2.2.2 ((i + 1).toNat))
  refine z_aloadS (pc := 781) O dL_law_781 rfl ?_
  refine z_iload_n (pc := 782) O dL_law_782 rfl ?_
  refine z_iconst (pc := 783) (v := iz (2)) O dL_law_783 (by decide) ?_
  refine zi_iadd (pc := 784) O dL_law_784 ?_
  refine z_sld (pc := 785) ((i + 2).toNat) O (iz_nI (by omega)) (by rw [hLγ]; omega) (by rw [hLγ]; omega) dL_law_785 ?_
  refine zi_val _ (izi _) ?_
  have := rng (γ.2.2.2.2.2.2.2 ((i + 2).toNat))
  refine z_callV (pc := 786) O cl_L_82 (k8_of _ _ ((γ.2.2.2.2.2.2.2 ((i + 1).toNat)).toInt) (by omega) ((γ.2.2.2.2.2.2.2 ((i + 2).toNat)).toInt) (by omega) IX) (by decide) (jo_2 IX.1) kc_8 rfl rfl (Nat.le_of_ble_eq_true rfl) ⟨by rw [hrc]; omega, by rw [hrs]; omega⟩ dL_law_786 (fun r τ1 hp => ?_)
  obtain ⟨z2, rfl, fτ1_0, frτ1, ivτ1_InvX⟩ := hp
  have imτ1 : InvM τ1 := InvM.cls frτ1.G IM ivτ1_InvX.1 rfl
  have srτ1 : SRw τ1 := SRw.frW K2.2.2 frτ1.G (fun _ => rfl) (fun _ => rfl)
  have clτ1 : Cl τ1 := Cl.mv K3 IX IM (fun k => (gI_eq (Fr.it frτ1 rfl rfl : hI τ1 36 k = hI σ 36 k))) (fun k => (gI_eq (Fr.it frτ1 rfl rfl : hI τ1 37 k = hI σ 37 k))) (fun k => (gI_eq (Fr.it frτ1 rfl rfl : hI τ1 38 k = hI σ 38 k))) (gI_eq (Fr.it frτ1 rfl rfl : hI τ1 33 33 = hI σ 33 33)) (fun j => by rw [frτ1.2.2.1]) (Old.fr frτ1)
  refine z_pop (pc := 789) O dL_law_789 rfl ?_
  refine z_aload_n (pc := 790) O dL_law_790 rfl ?_
  refine z_aloadS (pc := 791) O dL_law_791 rfl ?_
  refine z_iload_n (pc := 792) O dL_law_792 rfl ?_
  refine z_iconst (pc := 793) (v := iz (1)) O dL_law_793 (by decide) ?_
  refine zi_iadd (pc := 794) O dL_law_794 ?_
  refine z_sld (pc := 795) ((i + 1).toNat) O (iz_nI (by omega)) (by rw [hLγ]; omega) (by rw [hLγ]; omega) dL_law_795 ?_
  refine zi_val _ (izi _) ?_
  have := rng (γ.2.2.2.2.2.2.2 ((i + 1).toNat))
  refine z_aloadS (pc := 796) O dL_law_796 rfl ?_
  refine z_iload_n (pc := 797) O dL_law_797 rfl ?_
  refine z_iconst (pc := 798) (v := iz (2)) O dL_law_798 (by decide) ?_
  refine zi_iadd (pc := 799) O dL_law_799 ?_
  refine z_sld (pc := 800) ((i + 2).toNat) O (iz_nI (by omega)) (by rw [hLγ]; omega) (by rw [hLγ]; omega) dL_law_800 ?_
  refine zi_val _ (izi _) ?_
  have := rng (γ.2.2.2.2.2.2.2 ((i + 2).toNat))
  refine z_callV (pc := 801) O cl_L_85 (k9_of _ _ ((γ.2.2.2.2.2.2.2 ((i + 1).toNat)).toInt) (by omega) ((γ.2.2.2.2.2.2.2 ((i + 2).toNat)).toInt) (by omega) imτ1) (by decide) (jo_33 (frτ1.lay IX.1)) kc_9 rfl rfl (Nat.le_of_ble_eq_true rfl) ⟨by rw [hrc]; omega, by rw [hrs]; omega⟩ dL_law_801 (fun r τ3 hp => ?_)
  obtain ⟨z4, rfl, fτ3_0, frτ3, ivτ3_InvM⟩ := hp
  have ixτ3 : InvX τ3 := InvX.mod frτ3 ivτ1_InvX rfl
  have srτ3 : SRw τ3 := SRw.frW srτ1 frτ3.G (fun _ => rfl) (fun _ => rfl)
  have clτ3 : Cl τ3 := Cl.mv clτ1 ivτ1_InvX imτ1 (fun k => (gI_eq (Fr.it frτ3 rfl rfl : hI τ3 36 k = hI τ1 36 k))) (fun k => (gI_eq (Fr.it frτ3 rfl rfl : hI τ3 37 k = hI τ1 37 k))) (fun k => (gI_eq (Fr.it frτ3 rfl rfl : hI τ3 38 k = hI τ1 38 k))) (gI_eq (Fr.it frτ3 rfl rfl : hI τ3 33 33 = hI τ1 33 33)) (fun j => by rw [frτ3.2.2.1]) (Old.fr frτ3)
  refine z_pop (pc := 804) O dL_law_804 rfl ?_
  refine z_goto (pc := 805) (tgt := 1049) O dL_law_805 (by decide) ?_
  exact fin τ3 _ _ ixτ3 ivτ3_InvM (by unfold Cp; have : gI τ3 2 15 = gI σ 2 15 := gI_iz (Fr.it frτ3 rfl (Fr.it frτ1 rfl (izg σ 2 15))) (rgI _ _ _); have : gI τ3 33 73 = gI σ 33 73 := gI_iz (Fr.it frτ3 rfl (Fr.it frτ1 rfl (izg σ 33 73))) (rgI _ _ _); have : gI τ3 2 7 = gI σ 2 7 := gI_iz (Fr.it frτ3 rfl (Fr.it frτ1 rfl (izg σ 2 7))) (rgI _ _ _); have : gI τ3 33 6 = gI σ 33 6 := gI_iz (Fr.it frτ3 rfl (Fr.it frτ1 rfl (izg σ 33 6))) (rgI _ _ _); have : gI τ3 21 4 = gI σ 21 4 := gI_iz (Fr.it frτ3 rfl (Fr.it frτ1 rfl (izg σ 21 4))) (rgI _ _ _); have : gI τ3 33 54 = gI σ 33 54 := gI_iz (Fr.it frτ3 rfl (Fr.it frτ1 rfl (izg σ 33 54))) (rgI _ _ _); have : gI τ3 9 7 = gI σ 9 7 := gI_iz (Fr.it frτ3 rfl (Fr.it frτ1 rfl (izg σ 9 7))) (rgI _ _ _); have : gI τ3 33 52 = gI σ 33 52 := gI_iz (Fr.it frτ3 rfl (Fr.it frτ1 rfl (izg σ 33 52))) (rgI _ _ _); have : gI τ3 16 4 = gI σ 16 4 := gI_iz (Fr.it frτ3 rfl (Fr.it frτ1 rfl (izg σ 16 4))) (rgI _ _ _); have : gI τ3 33 53 = gI σ 33 53 := gI_iz (Fr.it frτ3 rfl (Fr.it frτ1 rfl (izg σ 33 53))) (rgI _ _ _); have : gI τ3 2 1 = gI σ 2 1 := gI_iz (Fr.it frτ3 rfl (Fr.it frτ1 rfl (izg σ 2 1))) (rgI _ _ _); have : gI τ3 33 2 = gI σ 33 2 := gI_iz (Fr.it frτ3 rfl (Fr.it frτ1 rfl (izg σ 33 2))) (rgI _ _ _); have : gI τ3 2 5 = gI σ 2 5 := gI_iz (Fr.it frτ3 rfl (Fr.it frτ1 rfl (izg σ 2 5))) (rgI _ _ _); have : gI τ3 33 4 = gI σ 33 4 := gI_iz (Fr.it frτ3 rfl (Fr.it frτ1 rfl (izg σ 33 4))) (rgI _ _ _); have : gI τ3 2 6 = gI σ 2 6 := gI_iz (Fr.it frτ3 rfl (Fr.it frτ1 rfl (izg σ 2 6))) (rgI _ _ _); have : gI τ3 33 5 = gI σ 33 5 := gI_iz (Fr.it frτ3 rfl (Fr.it frτ1 rfl (izg σ 33 5))) (rgI _ _ _); omega) ⟨(fun k => by rw [(Fr.it frτ3 rfl rfl : hI τ3 3 k = hI τ1 3 k), (Fr.it frτ1 rfl rfl : hI τ1 3 k = hI σ 3 k), (Fr.it frτ3 rfl rfl : hI τ3 34 k = hI τ1 34 k), (Fr.it frτ1 rfl rfl : hI τ1 34 k = hI σ 34 k)]; exact K2.1 k), (fun k => by rw [(gI_eq (Fr.it frτ3 rfl rfl : hI τ3 8 k = hI τ1 8 k)), (gI_eq (Fr.it frτ1 rfl rfl : hI τ1 8 k = hI σ 8 k)), (gI_eq (Fr.it frτ3 rfl rfl : hI τ3 38 k = hI τ1 38 k)), (gI_eq (Fr.it frτ1 rfl rfl : hI τ1 38 k = hI σ 38 k))]; exact K2.2.1 k), srτ3⟩ clτ3 (by omega) (by omega)
