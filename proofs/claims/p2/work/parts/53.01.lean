set_option maxRecDepth 100000 in
set_option maxHeartbeats 4000000 in
theorem lw_wasted {l : Launch} {K : EC} {f : Int → Int} {L : Nat} {xq : Int} {M : Mem} {i : Int} {Q : Mem → Option PV → Prop} (hE : e_all K xq) (he : e_ext K 0 L f) (hr : ∀ j, -2147483648 ≤ f j ∧ f j ≤ 2147483647) (i0 : 0 ≤ i) (i1 : i + 6 ≤ L) (iL : (L : Int) ≤ 3072) (hL : LI M) (J : ∀ M' : Mem, LI M' → Tr l K 60 mL_law 996 [(0, (2, -2)), (1, (2, 0)), (2, (2, 120)), (3, (0, i))] [] M' Q) : Tr l K 60 mL_law 684 [(0, (2, -2)), (1, (2, 0)), (2, (2, 120)), (3, (0, i))] [] M Q := by
  obtain ⟨hI, hx, hm, ht, ha⟩ := hL
  refine Tr.aload_n (pc := 684) (i := 1) d_L_law_684 rfl rfl ?_
  refine Tr.aload_n (pc := 685) (i := 0) d_L_law_685 rfl rfl ?_
  refine Tr.iload_n (pc := 686) (i := 3) d_L_law_686 rfl rfl ?_
  refine Tr.iconst (pc := 687) d_L_law_687 (by decide) ?_
  refine Tr.iadd (pc := 688) d_L_law_688 ?_
  refine Tr.tp (i + 1) (w32_id (by omega)) ?_
  refine Tr.xld (pc := 689) (i := 0) d_L_law_689 rfl he (by omega) (by omega) ?_
  refine Tr.callV (pc := 690) (as := [_]) d_L_law_690 s_13_86 ok_X11_wasted rfl rfl (Nat.le_of_ble_eq_true rfl) (Nat.le_of_ble_eq_true rfl) (by decide) (ty_0 hI.1) ?_
  refine Tr.imp (xu_wasted hE hI hx (f (i + 1)) (hr _)) ?_
  rintro M1 _ ⟨hI1, hx1, f1, v1, rfl, z1⟩
  have hm1 := hm.fr f1
  have k1 := f1 120 1 (by decide) (by decide)
  have k2 := f1 120 113 (by decide) (by decide)
  refine Tr.sc [(0, v1)] rfl ?_
  refine Tr.pop (pc := 693) d_L_law_693 ne01 ?_
  refine Tr.aload_n (pc := 694) (i := 2) d_L_law_694 rfl rfl ?_
  refine Tr.aload_n (pc := 695) (i := 0) d_L_law_695 rfl rfl ?_
  refine Tr.iload_n (pc := 696) (i := 3) d_L_law_696 rfl rfl ?_
  refine Tr.iconst (pc := 697) d_L_law_697 (by decide) ?_
  refine Tr.iadd (pc := 698) d_L_law_698 ?_
  refine Tr.tp (i + 1) (w32_id (by omega)) ?_
  refine Tr.xld (pc := 699) (i := 0) d_L_law_699 rfl he (by omega) (by omega) ?_
  refine Tr.callV (pc := 700) (as := [_]) d_L_law_700 s_13_89 ok_X12_wasted rfl rfl (Nat.le_of_ble_eq_true rfl) (Nat.le_of_ble_eq_true rfl) (by decide) (ty_120 hI1.1) ?_
  refine Tr.imp (mu_wasted hI1 hm1 (f (i + 1)) (hr _)) ?_
  rintro M2 _ ⟨hI2, hm2, f2, v2, rfl, z2⟩
  have hx2 := hx1.fr hI1 f2
  have k3 := f2 0 1 (Or.inl (by decide))
  have k4 := f2 113 0 (Or.inl (by decide))
  refine Tr.sc [(0, v2)] rfl ?_
  refine Tr.pop (pc := 703) d_L_law_703 ne01 ?_
  refine Tr.goto (pc := 704) (tgt := 996) d_L_law_704 rfl ?_
  exact J _ ⟨hI2, hx2, hm2, by omega, by omega⟩

set_option maxRecDepth 100000 in
set_option maxHeartbeats 4000000 in
theorem lw_over {l : Launch} {K : EC} {f : Int → Int} {L : Nat} {xq : Int} {M : Mem} {i : Int} {Q : Mem → Option PV → Prop} (hE : e_all K xq) (he : e_ext K 0 L f) (hr : ∀ j, -2147483648 ≤ f j ∧ f j ≤ 2147483647) (i0 : 0 ≤ i) (i1 : i + 6 ≤ L) (iL : (L : Int) ≤ 3072) (hL : LI M) (J : ∀ M' : Mem, LI M' → Tr l K 60 mL_law 996 [(0, (2, -2)), (1, (2, 0)), (2, (2, 120)), (3, (0, i))] [] M' Q) : Tr l K 60 mL_law 707 [(0, (2, -2)), (1, (2, 0)), (2, (2, 120)), (3, (0, i))] [] M Q := by
  obtain ⟨hI, hx, hm, ht, ha⟩ := hL
  refine Tr.aload_n (pc := 707) (i := 1) d_L_law_707 rfl rfl ?_
  refine Tr.aload_n (pc := 708) (i := 0) d_L_law_708 rfl rfl ?_
  refine Tr.iload_n (pc := 709) (i := 3) d_L_law_709 rfl rfl ?_
  refine Tr.iconst (pc := 710) d_L_law_710 (by decide) ?_
  refine Tr.iadd (pc := 711) d_L_law_711 ?_
  refine Tr.tp (i + 1) (w32_id (by omega)) ?_
  refine Tr.xld (pc := 712) (i := 0) d_L_law_712 rfl he (by omega) (by omega) ?_
  have JB721 : ∀ b721 : Int, 0 ≤ b721 ∧ b721 ≤ 1 → Tr l K 60 mL_law 721 [(0, (2, -2)), (1, (2, 0)), (2, (2, 120)), (3, (0, i))] [(0, b721), (2, 0)] M Q := by
    intro b721 hb721
    refine Tr.callV (pc := 721) (as := [_]) d_L_law_721 s_13_90 ok_X11_over rfl rfl (Nat.le_of_ble_eq_true rfl) (Nat.le_of_ble_eq_true rfl) (by decide) (ty_0 hI.1) ?_
    refine Tr.imp (xu_over hE hI hx b721 hb721) ?_
    rintro M1 _ ⟨hI1, hx1, f1, v1, rfl, z1⟩
    have hm1 := hm.fr f1
    have k1 := f1 120 1 (by decide) (by decide)
    have k2 := f1 120 113 (by decide) (by decide)
    refine Tr.sc [(0, v1)] rfl ?_
    refine Tr.pop (pc := 724) d_L_law_724 ne01 ?_
    refine Tr.aload_n (pc := 725) (i := 2) d_L_law_725 rfl rfl ?_
    refine Tr.aload_n (pc := 726) (i := 0) d_L_law_726 rfl rfl ?_
    refine Tr.iload_n (pc := 727) (i := 3) d_L_law_727 rfl rfl ?_
    refine Tr.iconst (pc := 728) d_L_law_728 (by decide) ?_
    refine Tr.iadd (pc := 729) d_L_law_729 ?_
    refine Tr.tp (i + 1) (w32_id (by omega)) ?_
    refine Tr.xld (pc := 730) (i := 0) d_L_law_730 rfl he (by omega) (by omega) ?_
    have JB739 : ∀ b739 : Int, 0 ≤ b739 ∧ b739 ≤ 1 → Tr l K 60 mL_law 739 [(0, (2, -2)), (1, (2, 0)), (2, (2, 120)), (3, (0, i))] [(0, b739), (2, 120)] M1 Q := by
      intro b739 hb739
      refine Tr.callV (pc := 739) (as := [_]) d_L_law_739 s_13_94 ok_X12_over rfl rfl (Nat.le_of_ble_eq_true rfl) (Nat.le_of_ble_eq_true rfl) (by decide) (ty_120 hI1.1) ?_
      refine Tr.imp (mu_over hI1 hm1 b739 hb739) ?_
      rintro M2 _ ⟨hI2, hm2, f2, v2, rfl, z2⟩
      have hx2 := hx1.fr hI1 f2
      have k3 := f2 0 1 (Or.inl (by decide))
      have k4 := f2 113 0 (Or.inl (by decide))
      refine Tr.sc [(0, v2)] rfl ?_
      refine Tr.pop (pc := 742) d_L_law_742 ne01 ?_
      refine Tr.goto (pc := 743) (tgt := 996) d_L_law_743 rfl ?_
      exact J _ ⟨hI2, hx2, hm2, by omega, by omega⟩
    refine Tr.if_eq (pc := 731) (tgt := 738) d_L_law_731 rfl (fun _ => ?_) (fun _ => ?_)
    · refine Tr.iconst (pc := 738) d_L_law_738 (by decide) ?_
      exact JB739 0 (by omega)
    · refine Tr.iconst (pc := 734) d_L_law_734 (by decide) ?_
      refine Tr.goto (pc := 735) (tgt := 739) d_L_law_735 rfl ?_
      exact JB739 1 (by omega)
  refine Tr.if_eq (pc := 713) (tgt := 720) d_L_law_713 rfl (fun _ => ?_) (fun _ => ?_)
  · refine Tr.iconst (pc := 720) d_L_law_720 (by decide) ?_
    exact JB721 0 (by omega)
  · refine Tr.iconst (pc := 716) d_L_law_716 (by decide) ?_
    refine Tr.goto (pc := 717) (tgt := 721) d_L_law_717 rfl ?_
    exact JB721 1 (by omega)

set_option maxRecDepth 100000 in
set_option maxHeartbeats 4000000 in
theorem lw_where {l : Launch} {K : EC} {f : Int → Int} {L : Nat} {xq : Int} {M : Mem} {i : Int} {Q : Mem → Option PV → Prop} (hE : e_all K xq) (he : e_ext K 0 L f) (hr : ∀ j, -2147483648 ≤ f j ∧ f j ≤ 2147483647) (i0 : 0 ≤ i) (i1 : i + 6 ≤ L) (iL : (L : Int) ≤ 3072) (hL : LI M) (J : ∀ M' : Mem, LI M' → Tr l K 60 mL_law 996 [(0, (2, -2)), (1, (2, 0)), (2, (2, 120)), (3, (0, i))] [] M' Q) : Tr l K 60 mL_law 746 [(0, (2, -2)), (1, (2, 0)), (2, (2, 120)), (3, (0, i))] [] M Q := by
  obtain ⟨hI, hx, hm, ht, ha⟩ := hL
  refine Tr.aload_n (pc := 746) (i := 1) d_L_law_746 rfl rfl ?_
  refine Tr.aload_n (pc := 747) (i := 0) d_L_law_747 rfl rfl ?_
  refine Tr.iload_n (pc := 748) (i := 3) d_L_law_748 rfl rfl ?_
  refine Tr.iconst (pc := 749) d_L_law_749 (by decide) ?_
  refine Tr.iadd (pc := 750) d_L_law_750 ?_
  refine Tr.tp (i + 1) (w32_id (by omega)) ?_
  refine Tr.xld (pc := 751) (i := 0) d_L_law_751 rfl he (by omega) (by omega) ?_
  refine Tr.callV (pc := 752) (as := [_]) d_L_law_752 s_13_95 ok_X11_where rfl rfl (Nat.le_of_ble_eq_true rfl) (Nat.le_of_ble_eq_true rfl) (by decide) (ty_0 hI.1) ?_
  refine Tr.imp (xu_where hE hI hx (f (i + 1)) (hr _)) ?_
  rintro M1 _ ⟨hI1, hx1, f1, v1, rfl, z1⟩
  have hm1 := hm.fr f1
  have k1 := f1 120 1 (by decide) (by decide)
  have k2 := f1 120 113 (by decide) (by decide)
  refine Tr.sc [(0, v1)] rfl ?_
  refine Tr.pop (pc := 755) d_L_law_755 ne01 ?_
  refine Tr.aload_n (pc := 756) (i := 2) d_L_law_756 rfl rfl ?_
  refine Tr.aload_n (pc := 757) (i := 0) d_L_law_757 rfl rfl ?_
  refine Tr.iload_n (pc := 758) (i := 3) d_L_law_758 rfl rfl ?_
  refine Tr.iconst (pc := 759) d_L_law_759 (by decide) ?_
  refine Tr.iadd (pc := 760) d_L_law_760 ?_
  refine Tr.tp (i + 1) (w32_id (by omega)) ?_
  refine Tr.xld (pc := 761) (i := 0) d_L_law_761 rfl he (by omega) (by omega) ?_
  refine Tr.callV (pc := 762) (as := [_]) d_L_law_762 s_13_98 ok_X12_where rfl rfl (Nat.le_of_ble_eq_true rfl) (Nat.le_of_ble_eq_true rfl) (by decide) (ty_120 hI1.1) ?_
  refine Tr.imp (mu_where hI1 hm1 (f (i + 1)) (hr _)) ?_
  rintro M2 _ ⟨hI2, hm2, f2, v2, rfl, z2⟩
  have hx2 := hx1.fr hI1 f2
  have k3 := f2 0 1 (Or.inl (by decide))
  have k4 := f2 113 0 (Or.inl (by decide))
  refine Tr.sc [(0, v2)] rfl ?_
  refine Tr.pop (pc := 765) d_L_law_765 ne01 ?_
  refine Tr.goto (pc := 766) (tgt := 996) d_L_law_766 rfl ?_
  exact J _ ⟨hI2, hx2, hm2, by omega, by omega⟩

set_option maxRecDepth 100000 in
set_option maxHeartbeats 4000000 in
theorem lw_measure {l : Launch} {K : EC} {f : Int → Int} {L : Nat} {xq : Int} {M : Mem} {i : Int} {Q : Mem → Option PV → Prop} (hE : e_all K xq) (he : e_ext K 0 L f) (hr : ∀ j, -2147483648 ≤ f j ∧ f j ≤ 2147483647) (i0 : 0 ≤ i) (i1 : i + 6 ≤ L) (iL : (L : Int) ≤ 3072) (hL : LI M) (J : ∀ M' : Mem, LI M' → Tr l K 60 mL_law 996 [(0, (2, -2)), (1, (2, 0)), (2, (2, 120)), (3, (0, i))] [] M' Q) : Tr l K 60 mL_law 769 [(0, (2, -2)), (1, (2, 0)), (2, (2, 120)), (3, (0, i))] [] M Q := by
  obtain ⟨hI, hx, hm, ht, ha⟩ := hL
  refine Tr.aload_n (pc := 769) (i := 1) d_L_law_769 rfl rfl ?_
  refine Tr.aload_n (pc := 770) (i := 0) d_L_law_770 rfl rfl ?_
  refine Tr.iload_n (pc := 771) (i := 3) d_L_law_771 rfl rfl ?_
  refine Tr.iconst (pc := 772) d_L_law_772 (by decide) ?_
  refine Tr.iadd (pc := 773) d_L_law_773 ?_
  refine Tr.tp (i + 1) (w32_id (by omega)) ?_
  refine Tr.xld (pc := 774) (i := 0) d_L_law_774 rfl he (by omega) (by omega) ?_
  refine Tr.callV (pc := 775) (as := [_]) d_L_law_775 s_13_99 ok_X11_measure rfl rfl (Nat.le_of_ble_eq_true rfl) (Nat.le_of_ble_eq_true rfl) (by decide) (ty_0 hI.1) ?_
  refine Tr.imp (xu_measure hE hI hx (f (i + 1)) (hr _)) ?_
  rintro M1 _ ⟨hI1, hx1, f1, v1, rfl, z1⟩
  have hm1 := hm.fr f1
  have k1 := f1 120 1 (by decide) (by decide)
  have k2 := f1 120 113 (by decide) (by decide)
  refine Tr.sc [(0, v1)] rfl ?_
  refine Tr.pop (pc := 778) d_L_law_778 ne01 ?_
  refine Tr.aload_n (pc := 779) (i := 2) d_L_law_779 rfl rfl ?_
  refine Tr.aload_n (pc := 780) (i := 0) d_L_law_780 rfl rfl ?_
  refine Tr.iload_n (pc := 781) (i := 3) d_L_law_781 rfl rfl ?_
  refine Tr.iconst (pc := 782) d_L_law_782 (by decide) ?_
  refine Tr.iadd (pc := 783) d_L_law_783 ?_
  refine Tr.tp (i + 1) (w32_id (by omega)) ?_
  refine Tr.xld (pc := 784) (i := 0) d_L_law_784 rfl he (by omega) (by omega) ?_
  refine Tr.callV (pc := 785) (as := [_]) d_L_law_785 s_13_102 ok_X12_measure rfl rfl (Nat.le_of_ble_eq_true rfl) (Nat.le_of_ble_eq_true rfl) (by decide) (ty_120 hI1.1) ?_
  refine Tr.imp (mu_measure hI1 hm1 (f (i + 1)) (hr _)) ?_
  rintro M2 _ ⟨hI2, hm2, f2, v2, rfl, z2⟩
  have hx2 := hx1.fr hI1 f2
  have k3 := f2 0 1 (Or.inl (by decide))
  have k4 := f2 113 0 (Or.inl (by decide))
  refine Tr.sc [(0, v2)] rfl ?_
  refine Tr.pop (pc := 788) d_L_law_788 ne01 ?_
  refine Tr.goto (pc := 789) (tgt := 996) d_L_law_789 rfl ?_
  exact J _ ⟨hI2, hx2, hm2, by omega, by omega⟩

set_option maxRecDepth 100000 in
set_option maxHeartbeats 4000000 in
theorem lw_fit {l : Launch} {K : EC} {f : Int → Int} {L : Nat} {xq : Int} {M : Mem} {i : Int} {Q : Mem → Option PV → Prop} (hE : e_all K xq) (he : e_ext K 0 L f) (hr : ∀ j, -2147483648 ≤ f j ∧ f j ≤ 2147483647) (i0 : 0 ≤ i) (i1 : i + 6 ≤ L) (iL : (L : Int) ≤ 3072) (hL : LI M) (J : ∀ M' : Mem, LI M' → Tr l K 60 mL_law 996 [(0, (2, -2)), (1, (2, 0)), (2, (2, 120)), (3, (0, i))] [] M' Q) : Tr l K 60 mL_law 792 [(0, (2, -2)), (1, (2, 0)), (2, (2, 120)), (3, (0, i))] [] M Q := by
  obtain ⟨hI, hx, hm, ht, ha⟩ := hL
  refine Tr.aload_n (pc := 792) (i := 1) d_L_law_792 rfl rfl ?_
  refine Tr.aload_n (pc := 793) (i := 0) d_L_law_793 rfl rfl ?_
  refine Tr.iload_n (pc := 794) (i := 3) d_L_law_794 rfl rfl ?_
  refine Tr.iconst (pc := 795) d_L_law_795 (by decide) ?_
  refine Tr.iadd (pc := 796) d_L_law_796 ?_
  refine Tr.tp (i + 1) (w32_id (by omega)) ?_
  refine Tr.xld (pc := 797) (i := 0) d_L_law_797 rfl he (by omega) (by omega) ?_
  refine Tr.callV (pc := 798) (as := [_]) d_L_law_798 s_13_103 ok_X11_fit rfl rfl (Nat.le_of_ble_eq_true rfl) (Nat.le_of_ble_eq_true rfl) (by decide) (ty_0 hI.1) ?_
  refine Tr.imp (xu_fit hE hI hx (f (i + 1)) (hr _)) ?_
  rintro M1 _ ⟨hI1, hx1, f1, v1, rfl, z1⟩
  have hm1 := hm.fr f1
  have k1 := f1 120 1 (by decide) (by decide)
  have k2 := f1 120 113 (by decide) (by decide)
  refine Tr.sc [(0, v1)] rfl ?_
  refine Tr.pop (pc := 801) d_L_law_801 ne01 ?_
  refine Tr.aload_n (pc := 802) (i := 2) d_L_law_802 rfl rfl ?_
  refine Tr.aload_n (pc := 803) (i := 0) d_L_law_803 rfl rfl ?_
  refine Tr.iload_n (pc := 804) (i := 3) d_L_law_804 rfl rfl ?_
  refine Tr.iconst (pc := 805) d_L_law_805 (by decide) ?_
  refine Tr.iadd (pc := 806) d_L_law_806 ?_
  refine Tr.tp (i + 1) (w32_id (by omega)) ?_
  refine Tr.xld (pc := 807) (i := 0) d_L_law_807 rfl he (by omega) (by omega) ?_
  refine Tr.callV (pc := 808) (as := [_]) d_L_law_808 s_13_106 ok_X12_fit rfl rfl (Nat.le_of_ble_eq_true rfl) (Nat.le_of_ble_eq_true rfl) (by decide) (ty_120 hI1.1) ?_
  refine Tr.imp (mu_fit hI1 hm1 (f (i + 1)) (hr _)) ?_
  rintro M2 _ ⟨hI2, hm2, f2, v2, rfl, z2⟩
  have hx2 := hx1.fr hI1 f2
  have k3 := f2 0 1 (Or.inl (by decide))
  have k4 := f2 113 0 (Or.inl (by decide))
  refine Tr.sc [(0, v2)] rfl ?_
  refine Tr.pop (pc := 811) d_L_law_811 ne01 ?_
  refine Tr.goto (pc := 812) (tgt := 996) d_L_law_812 rfl ?_
  exact J _ ⟨hI2, hx2, hm2, by omega, by omega⟩

set_option maxRecDepth 100000 in
set_option maxHeartbeats 4000000 in
theorem lw_fitted {l : Launch} {K : EC} {f : Int → Int} {L : Nat} {xq : Int} {M : Mem} {i : Int} {Q : Mem → Option PV → Prop} (hE : e_all K xq) (he : e_ext K 0 L f) (hr : ∀ j, -2147483648 ≤ f j ∧ f j ≤ 2147483647) (i0 : 0 ≤ i) (i1 : i + 6 ≤ L) (iL : (L : Int) ≤ 3072) (hL : LI M) (J : ∀ M' : Mem, LI M' → Tr l K 60 mL_law 996 [(0, (2, -2)), (1, (2, 0)), (2, (2, 120)), (3, (0, i))] [] M' Q) : Tr l K 60 mL_law 815 [(0, (2, -2)), (1, (2, 0)), (2, (2, 120)), (3, (0, i))] [] M Q := by
  obtain ⟨hI, hx, hm, ht, ha⟩ := hL
  refine Tr.aload_n (pc := 815) (i := 1) d_L_law_815 rfl rfl ?_
  refine Tr.aload_n (pc := 816) (i := 0) d_L_law_816 rfl rfl ?_
  refine Tr.iload_n (pc := 817) (i := 3) d_L_law_817 rfl rfl ?_
  refine Tr.iconst (pc := 818) d_L_law_818 (by decide) ?_
  refine Tr.iadd (pc := 819) d_L_law_819 ?_
  refine Tr.tp (i + 1) (w32_id (by omega)) ?_
  refine Tr.xld (pc := 820) (i := 0) d_L_law_820 rfl he (by omega) (by omega) ?_
  refine Tr.callV (pc := 821) (as := [_]) d_L_law_821 s_13_107 ok_X11_fitted rfl rfl (Nat.le_of_ble_eq_true rfl) (Nat.le_of_ble_eq_true rfl) (by decide) (ty_0 hI.1) ?_
  refine Tr.imp (xu_fitted hE hI hx (f (i + 1)) (hr _)) ?_
  rintro M1 _ ⟨hI1, hx1, f1, v1, rfl, z1⟩
  have hm1 := hm.fr f1
  have k1 := f1 120 1 (by decide) (by decide)
  have k2 := f1 120 113 (by decide) (by decide)
  refine Tr.sc [(0, v1)] rfl ?_
  refine Tr.pop (pc := 824) d_L_law_824 ne01 ?_
  refine Tr.aload_n (pc := 825) (i := 2) d_L_law_825 rfl rfl ?_
  refine Tr.aload_n (pc := 826) (i := 0) d_L_law_826 rfl rfl ?_
  refine Tr.iload_n (pc := 827) (i := 3) d_L_law_827 rfl rfl ?_
  refine Tr.iconst (pc := 828) d_L_law_828 (by decide) ?_
  refine Tr.iadd (pc := 829) d_L_law_829 ?_
  refine Tr.tp (i + 1) (w32_id (by omega)) ?_
  refine Tr.xld (pc := 830) (i := 0) d_L_law_830 rfl he (by omega) (by omega) ?_
  refine Tr.callV (pc := 831) (as := [_]) d_L_law_831 s_13_110 ok_X12_fitted rfl rfl (Nat.le_of_ble_eq_true rfl) (Nat.le_of_ble_eq_true rfl) (by decide) (ty_120 hI1.1) ?_
  refine Tr.imp (mu_fitted hI1 hm1 (f (i + 1)) (hr _)) ?_
  rintro M2 _ ⟨hI2, hm2, f2, v2, rfl, z2⟩
  have hx2 := hx1.fr hI1 f2
  have k3 := f2 0 1 (Or.inl (by decide))
  have k4 := f2 113 0 (Or.inl (by decide))
  refine Tr.sc [(0, v2)] rfl ?_
  refine Tr.pop (pc := 834) d_L_law_834 ne01 ?_
  refine Tr.goto (pc := 835) (tgt := 996) d_L_law_835 rfl ?_
  exact J _ ⟨hI2, hx2, hm2, by omega, by omega⟩

set_option maxRecDepth 100000 in
set_option maxHeartbeats 4000000 in
theorem lw_ask {l : Launch} {K : EC} {f : Int → Int} {L : Nat} {xq : Int} {M : Mem} {i : Int} {Q : Mem → Option PV → Prop} (hE : e_all K xq) (he : e_ext K 0 L f) (hr : ∀ j, -2147483648 ≤ f j ∧ f j ≤ 2147483647) (i0 : 0 ≤ i) (i1 : i + 6 ≤ L) (iL : (L : Int) ≤ 3072) (hL : LI M) (J : ∀ M' : Mem, LI M' → Tr l K 60 mL_law 996 [(0, (2, -2)), (1, (2, 0)), (2, (2, 120)), (3, (0, i))] [] M' Q) : Tr l K 60 mL_law 838 [(0, (2, -2)), (1, (2, 0)), (2, (2, 120)), (3, (0, i))] [] M Q := by
  obtain ⟨hI, hx, hm, ht, ha⟩ := hL
  refine Tr.aload_n (pc := 838) (i := 1) d_L_law_838 rfl rfl ?_
  refine Tr.aload_n (pc := 839) (i := 0) d_L_law_839 rfl rfl ?_
  refine Tr.iload_n (pc := 840) (i := 3) d_L_law_840 rfl rfl ?_
  refine Tr.iconst (pc := 841) d_L_law_841 (by decide) ?_
  refine Tr.iadd (pc := 842) d_L_law_842 ?_
  refine Tr.tp (i + 1) (w32_id (by omega)) ?_
  refine Tr.xld (pc := 843) (i := 0) d_L_law_843 rfl he (by omega) (by omega) ?_
  refine Tr.aload_n (pc := 844) (i := 0) d_L_law_844 rfl rfl ?_
  refine Tr.iload_n (pc := 845) (i := 3) d_L_law_845 rfl rfl ?_
  refine Tr.iconst (pc := 846) d_L_law_846 (by decide) ?_
  refine Tr.iadd (pc := 847) d_L_law_847 ?_
  refine Tr.tp (i + 2) (w32_id (by omega)) ?_
  refine Tr.xld (pc := 848) (i := 0) d_L_law_848 rfl he (by omega) (by omega) ?_
  refine Tr.aload_n (pc := 849) (i := 0) d_L_law_849 rfl rfl ?_
  refine Tr.iload_n (pc := 850) (i := 3) d_L_law_850 rfl rfl ?_
  refine Tr.iconst (pc := 851) d_L_law_851 (by decide) ?_
  refine Tr.iadd (pc := 852) d_L_law_852 ?_
  refine Tr.tp (i + 3) (w32_id (by omega)) ?_
  refine Tr.xld (pc := 853) (i := 0) d_L_law_853 rfl he (by omega) (by omega) ?_
  refine Tr.callV (pc := 854) (as := [_, _, _]) d_L_law_854 s_13_111 ok_X11_ask rfl rfl (Nat.le_of_ble_eq_true rfl) (Nat.le_of_ble_eq_true rfl) (by decide) (ty_0 hI.1) ?_
  refine Tr.imp (xu_ask hE hI hx (f (i + 1)) (hr _) (f (i + 2)) (hr _) (f (i + 3)) (hr _)) ?_
  rintro M1 _ ⟨hI1, hx1, f1, v1, rfl, z1⟩
  have hm1 := hm.fr f1
  have k1 := f1 120 1 (by decide) (by decide)
  have k2 := f1 120 113 (by decide) (by decide)
  refine Tr.sc [(0, v1)] rfl ?_
  refine Tr.pop (pc := 857) d_L_law_857 ne01 ?_
  refine Tr.aload_n (pc := 858) (i := 2) d_L_law_858 rfl rfl ?_
  refine Tr.aload_n (pc := 859) (i := 0) d_L_law_859 rfl rfl ?_
  refine Tr.iload_n (pc := 860) (i := 3) d_L_law_860 rfl rfl ?_
  refine Tr.iconst (pc := 861) d_L_law_861 (by decide) ?_
  refine Tr.iadd (pc := 862) d_L_law_862 ?_
  refine Tr.tp (i + 1) (w32_id (by omega)) ?_
  refine Tr.xld (pc := 863) (i := 0) d_L_law_863 rfl he (by omega) (by omega) ?_
  refine Tr.aload_n (pc := 864) (i := 0) d_L_law_864 rfl rfl ?_
  refine Tr.iload_n (pc := 865) (i := 3) d_L_law_865 rfl rfl ?_
  refine Tr.iconst (pc := 866) d_L_law_866 (by decide) ?_
  refine Tr.iadd (pc := 867) d_L_law_867 ?_
  refine Tr.tp (i + 2) (w32_id (by omega)) ?_
  refine Tr.xld (pc := 868) (i := 0) d_L_law_868 rfl he (by omega) (by omega) ?_
  refine Tr.aload_n (pc := 869) (i := 0) d_L_law_869 rfl rfl ?_
  refine Tr.iload_n (pc := 870) (i := 3) d_L_law_870 rfl rfl ?_
  refine Tr.iconst (pc := 871) d_L_law_871 (by decide) ?_
  refine Tr.iadd (pc := 872) d_L_law_872 ?_
  refine Tr.tp (i + 3) (w32_id (by omega)) ?_
  refine Tr.xld (pc := 873) (i := 0) d_L_law_873 rfl he (by omega) (by omega) ?_
  refine Tr.callV (pc := 874) (as := [_, _, _]) d_L_law_874 s_13_114 ok_X12_ask rfl rfl (Nat.le_of_ble_eq_true rfl) (Nat.le_of_ble_eq_true rfl) (by decide) (ty_120 hI1.1) ?_
  refine Tr.imp (mu_ask hI1 hm1 (f (i + 1)) (hr _) (f (i + 2)) (hr _) (f (i + 3)) (hr _)) ?_
  rintro M2 _ ⟨hI2, hm2, f2, v2, rfl, z2⟩
  have hx2 := hx1.fr hI1 f2
  have k3 := f2 0 1 (Or.inl (by decide))
  have k4 := f2 113 0 (Or.inl (by decide))
  refine Tr.sc [(0, v2)] rfl ?_
  refine Tr.pop (pc := 877) d_L_law_877 ne01 ?_
  refine Tr.goto (pc := 878) (tgt := 996) d_L_law_878 rfl ?_
  exact J _ ⟨hI2, hx2, hm2, by omega, by omega⟩

set_option maxRecDepth 100000 in
set_option maxHeartbeats 4000000 in
theorem lw_forget {l : Launch} {K : EC} {f : Int → Int} {L : Nat} {xq : Int} {M : Mem} {i : Int} {Q : Mem → Option PV → Prop} (hE : e_all K xq) (he : e_ext K 0 L f) (hr : ∀ j, -2147483648 ≤ f j ∧ f j ≤ 2147483647) (i0 : 0 ≤ i) (i1 : i + 6 ≤ L) (iL : (L : Int) ≤ 3072) (hL : LI M) (J : ∀ M' : Mem, LI M' → Tr l K 60 mL_law 996 [(0, (2, -2)), (1, (2, 0)), (2, (2, 120)), (3, (0, i))] [] M' Q) : Tr l K 60 mL_law 881 [(0, (2, -2)), (1, (2, 0)), (2, (2, 120)), (3, (0, i))] [] M Q := by
  obtain ⟨hI, hx, hm, ht, ha⟩ := hL
  refine Tr.aload_n (pc := 881) (i := 1) d_L_law_881 rfl rfl ?_
  refine Tr.callV (pc := 882) (as := []) d_L_law_882 s_13_115 ok_X11_forget rfl rfl (Nat.le_of_ble_eq_true rfl) (Nat.le_of_ble_eq_true rfl) (by decide) (ty_0 hI.1) ?_
  refine Tr.imp (xu_forget hE hI hx ) ?_
  rintro M1 _ ⟨hI1, hx1, f1, v1, rfl, z1⟩
  have hm1 := hm.fr f1
  have k1 := f1 120 1 (by decide) (by decide)
  have k2 := f1 120 113 (by decide) (by decide)
  refine Tr.sc [(0, v1)] rfl ?_
  refine Tr.pop (pc := 885) d_L_law_885 ne01 ?_
  refine Tr.aload_n (pc := 886) (i := 2) d_L_law_886 rfl rfl ?_
  refine Tr.callV (pc := 887) (as := []) d_L_law_887 s_13_118 ok_X12_forget rfl rfl (Nat.le_of_ble_eq_true rfl) (Nat.le_of_ble_eq_true rfl) (by decide) (ty_120 hI1.1) ?_
  refine Tr.imp (mu_forget hI1 hm1 ) ?_
  rintro M2 _ ⟨hI2, hm2, f2, v2, rfl, z2⟩
  have hx2 := hx1.fr hI1 f2
  have k3 := f2 0 1 (Or.inl (by decide))
  have k4 := f2 113 0 (Or.inl (by decide))
  refine Tr.sc [(0, v2)] rfl ?_
  refine Tr.pop (pc := 890) d_L_law_890 ne01 ?_
  refine Tr.goto (pc := 891) (tgt := 996) d_L_law_891 rfl ?_
  exact J _ ⟨hI2, hx2, hm2, by omega, by omega⟩

set_option maxRecDepth 100000 in
set_option maxHeartbeats 4000000 in
theorem lw_together {l : Launch} {K : EC} {f : Int → Int} {L : Nat} {xq : Int} {M : Mem} {i : Int} {Q : Mem → Option PV → Prop} (hE : e_all K xq) (he : e_ext K 0 L f) (hr : ∀ j, -2147483648 ≤ f j ∧ f j ≤ 2147483647) (i0 : 0 ≤ i) (i1 : i + 6 ≤ L) (iL : (L : Int) ≤ 3072) (hL : LI M) (J : ∀ M' : Mem, LI M' → Tr l K 60 mL_law 996 [(0, (2, -2)), (1, (2, 0)), (2, (2, 120)), (3, (0, i))] [] M' Q) : Tr l K 60 mL_law 894 [(0, (2, -2)), (1, (2, 0)), (2, (2, 120)), (3, (0, i))] [] M Q := by
  obtain ⟨hI, hx, hm, ht, ha⟩ := hL
  refine Tr.aload_n (pc := 894) (i := 1) d_L_law_894 rfl rfl ?_
  refine Tr.aload_n (pc := 895) (i := 0) d_L_law_895 rfl rfl ?_
  refine Tr.iload_n (pc := 896) (i := 3) d_L_law_896 rfl rfl ?_
  refine Tr.iconst (pc := 897) d_L_law_897 (by decide) ?_
  refine Tr.iadd (pc := 898) d_L_law_898 ?_
  refine Tr.tp (i + 1) (w32_id (by omega)) ?_
  refine Tr.xld (pc := 899) (i := 0) d_L_law_899 rfl he (by omega) (by omega) ?_
  refine Tr.callV (pc := 900) (as := [_]) d_L_law_900 s_13_119 ok_X11_together rfl rfl (Nat.le_of_ble_eq_true rfl) (Nat.le_of_ble_eq_true rfl) (by decide) (ty_0 hI.1) ?_
  refine Tr.imp (xu_together hE hI hx (f (i + 1)) (hr _)) ?_
  rintro M1 _ ⟨hI1, hx1, f1, v1, rfl, z1⟩
  have hm1 := hm.fr f1
  have k1 := f1 120 1 (by decide) (by decide)
  have k2 := f1 120 113 (by decide) (by decide)
  refine Tr.sc [(0, v1)] rfl ?_
  refine Tr.pop (pc := 903) d_L_law_903 ne01 ?_
  refine Tr.aload_n (pc := 904) (i := 2) d_L_law_904 rfl rfl ?_
  refine Tr.aload_n (pc := 905) (i := 0) d_L_law_905 rfl rfl ?_
  refine Tr.iload_n (pc := 906) (i := 3) d_L_law_906 rfl rfl ?_
  refine Tr.iconst (pc := 907) d_L_law_907 (by decide) ?_
  refine Tr.iadd (pc := 908) d_L_law_908 ?_
  refine Tr.tp (i + 1) (w32_id (by omega)) ?_
  refine Tr.xld (pc := 909) (i := 0) d_L_law_909 rfl he (by omega) (by omega) ?_
  refine Tr.callV (pc := 910) (as := [_]) d_L_law_910 s_13_122 ok_X12_together rfl rfl (Nat.le_of_ble_eq_true rfl) (Nat.le_of_ble_eq_true rfl) (by decide) (ty_120 hI1.1) ?_
  refine Tr.imp (mu_together hI1 hm1 (f (i + 1)) (hr _)) ?_
  rintro M2 _ ⟨hI2, hm2, f2, v2, rfl, z2⟩
  have hx2 := hx1.fr hI1 f2
  have k3 := f2 0 1 (Or.inl (by decide))
  have k4 := f2 113 0 (Or.inl (by decide))
  refine Tr.sc [(0, v2)] rfl ?_
  refine Tr.pop (pc := 913) d_L_law_913 ne01 ?_
  refine Tr.goto (pc := 914) (tgt := 996) d_L_law_914 rfl ?_
  exact J _ ⟨hI2, hx2, hm2, by omega, by omega⟩

set_option maxRecDepth 100000 in
set_option maxHeartbeats 4000000 in
theorem lw_later {l : Launch} {K : EC} {f : Int → Int} {L : Nat} {xq : Int} {M : Mem} {i : Int} {Q : Mem → Option PV → Prop} (hE : e_all K xq) (he : e_ext K 0 L f) (hr : ∀ j, -2147483648 ≤ f j ∧ f j ≤ 2147483647) (i0 : 0 ≤ i) (i1 : i + 6 ≤ L) (iL : (L : Int) ≤ 3072) (hL : LI M) (J : ∀ M' : Mem, LI M' → Tr l K 60 mL_law 996 [(0, (2, -2)), (1, (2, 0)), (2, (2, 120)), (3, (0, i))] [] M' Q) : Tr l K 60 mL_law 917 [(0, (2, -2)), (1, (2, 0)), (2, (2, 120)), (3, (0, i))] [] M Q := by
  obtain ⟨hI, hx, hm, ht, ha⟩ := hL
  refine Tr.aload_n (pc := 917) (i := 1) d_L_law_917 rfl rfl ?_
  refine Tr.aload_n (pc := 918) (i := 0) d_L_law_918 rfl rfl ?_
  refine Tr.iload_n (pc := 919) (i := 3) d_L_law_919 rfl rfl ?_
  refine Tr.iconst (pc := 920) d_L_law_920 (by decide) ?_
  refine Tr.iadd (pc := 921) d_L_law_921 ?_
  refine Tr.tp (i + 1) (w32_id (by omega)) ?_
  refine Tr.xld (pc := 922) (i := 0) d_L_law_922 rfl he (by omega) (by omega) ?_
  refine Tr.callV (pc := 923) (as := [_]) d_L_law_923 s_13_123 ok_X11_later rfl rfl (Nat.le_of_ble_eq_true rfl) (Nat.le_of_ble_eq_true rfl) (by decide) (ty_0 hI.1) ?_
  refine Tr.imp (xu_later hE hI hx (f (i + 1)) (hr _)) ?_
  rintro M1 _ ⟨hI1, hx1, f1, v1, rfl, z1⟩
  have hm1 := hm.fr f1
  have k1 := f1 120 1 (by decide) (by decide)
  have k2 := f1 120 113 (by decide) (by decide)
  refine Tr.sc [(0, v1)] rfl ?_
  refine Tr.pop (pc := 926) d_L_law_926 ne01 ?_
  refine Tr.aload_n (pc := 927) (i := 2) d_L_law_927 rfl rfl ?_
  refine Tr.aload_n (pc := 928) (i := 0) d_L_law_928 rfl rfl ?_
  refine Tr.iload_n (pc := 929) (i := 3) d_L_law_929 rfl rfl ?_
  refine Tr.iconst (pc := 930) d_L_law_930 (by decide) ?_
  refine Tr.iadd (pc := 931) d_L_law_931 ?_
  refine Tr.tp (i + 1) (w32_id (by omega)) ?_
  refine Tr.xld (pc := 932) (i := 0) d_L_law_932 rfl he (by omega) (by omega) ?_
  refine Tr.callV (pc := 933) (as := [_]) d_L_law_933 s_13_126 ok_X12_later rfl rfl (Nat.le_of_ble_eq_true rfl) (Nat.le_of_ble_eq_true rfl) (by decide) (ty_120 hI1.1) ?_
  refine Tr.imp (mu_later hI1 hm1 (f (i + 1)) (hr _)) ?_
  rintro M2 _ ⟨hI2, hm2, f2, v2, rfl, z2⟩
  have hx2 := hx1.fr hI1 f2
  have k3 := f2 0 1 (Or.inl (by decide))
  have k4 := f2 113 0 (Or.inl (by decide))
  refine Tr.sc [(0, v2)] rfl ?_
  refine Tr.pop (pc := 936) d_L_law_936 ne01 ?_
  refine Tr.goto (pc := 937) (tgt := 996) d_L_law_937 rfl ?_
  exact J _ ⟨hI2, hx2, hm2, by omega, by omega⟩

set_option maxRecDepth 100000 in
set_option maxHeartbeats 4000000 in
theorem lw_never {l : Launch} {K : EC} {f : Int → Int} {L : Nat} {xq : Int} {M : Mem} {i : Int} {Q : Mem → Option PV → Prop} (hE : e_all K xq) (he : e_ext K 0 L f) (hr : ∀ j, -2147483648 ≤ f j ∧ f j ≤ 2147483647) (i0 : 0 ≤ i) (i1 : i + 6 ≤ L) (iL : (L : Int) ≤ 3072) (hL : LI M) (J : ∀ M' : Mem, LI M' → Tr l K 60 mL_law 996 [(0, (2, -2)), (1, (2, 0)), (2, (2, 120)), (3, (0, i))] [] M' Q) : Tr l K 60 mL_law 940 [(0, (2, -2)), (1, (2, 0)), (2, (2, 120)), (3, (0, i))] [] M Q := by
  obtain ⟨hI, hx, hm, ht, ha⟩ := hL
  refine Tr.aload_n (pc := 940) (i := 1) d_L_law_940 rfl rfl ?_
  refine Tr.callV (pc := 941) (as := []) d_L_law_941 s_13_127 ok_X11_never rfl rfl (Nat.le_of_ble_eq_true rfl) (Nat.le_of_ble_eq_true rfl) (by decide) (ty_0 hI.1) ?_
  refine Tr.imp (xu_never hE hI hx ) ?_
  rintro M1 _ ⟨hI1, hx1, f1, v1, rfl, z1⟩
  have hm1 := hm.fr f1
  have k1 := f1 120 1 (by decide) (by decide)
  have k2 := f1 120 113 (by decide) (by decide)
  refine Tr.sc [(0, v1)] rfl ?_
  refine Tr.pop (pc := 944) d_L_law_944 ne01 ?_
  refine Tr.aload_n (pc := 945) (i := 2) d_L_law_945 rfl rfl ?_
  refine Tr.callV (pc := 946) (as := []) d_L_law_946 s_13_130 ok_X12_never rfl rfl (Nat.le_of_ble_eq_true rfl) (Nat.le_of_ble_eq_true rfl) (by decide) (ty_120 hI1.1) ?_
  refine Tr.imp (mu_never hI1 hm1 ) ?_
  rintro M2 _ ⟨hI2, hm2, f2, v2, rfl, z2⟩
  have hx2 := hx1.fr hI1 f2
  have k3 := f2 0 1 (Or.inl (by decide))
  have k4 := f2 113 0 (Or.inl (by decide))
  refine Tr.sc [(0, v2)] rfl ?_
  refine Tr.pop (pc := 949) d_L_law_949 ne01 ?_
  refine Tr.goto (pc := 950) (tgt := 996) d_L_law_950 rfl ?_
  exact J _ ⟨hI2, hx2, hm2, by omega, by omega⟩

set_option maxRecDepth 100000 in
set_option maxHeartbeats 4000000 in
theorem lw_lasts {l : Launch} {K : EC} {f : Int → Int} {L : Nat} {xq : Int} {M : Mem} {i : Int} {Q : Mem → Option PV → Prop} (hE : e_all K xq) (he : e_ext K 0 L f) (hr : ∀ j, -2147483648 ≤ f j ∧ f j ≤ 2147483647) (i0 : 0 ≤ i) (i1 : i + 6 ≤ L) (iL : (L : Int) ≤ 3072) (hL : LI M) (J : ∀ M' : Mem, LI M' → Tr l K 60 mL_law 996 [(0, (2, -2)), (1, (2, 0)), (2, (2, 120)), (3, (0, i))] [] M' Q) : Tr l K 60 mL_law 953 [(0, (2, -2)), (1, (2, 0)), (2, (2, 120)), (3, (0, i))] [] M Q := by
  obtain ⟨hI, hx, hm, ht, ha⟩ := hL
  refine Tr.aload_n (pc := 953) (i := 1) d_L_law_953 rfl rfl ?_
  refine Tr.aload_n (pc := 954) (i := 0) d_L_law_954 rfl rfl ?_
  refine Tr.iload_n (pc := 955) (i := 3) d_L_law_955 rfl rfl ?_
  refine Tr.iconst (pc := 956) d_L_law_956 (by decide) ?_
  refine Tr.iadd (pc := 957) d_L_law_957 ?_
  refine Tr.tp (i + 1) (w32_id (by omega)) ?_
  refine Tr.xld (pc := 958) (i := 0) d_L_law_958 rfl he (by omega) (by omega) ?_
  refine Tr.aload_n (pc := 959) (i := 0) d_L_law_959 rfl rfl ?_
  refine Tr.iload_n (pc := 960) (i := 3) d_L_law_960 rfl rfl ?_
  refine Tr.iconst (pc := 961) d_L_law_961 (by decide) ?_
  refine Tr.iadd (pc := 962) d_L_law_962 ?_
  refine Tr.tp (i + 2) (w32_id (by omega)) ?_
  refine Tr.xld (pc := 963) (i := 0) d_L_law_963 rfl he (by omega) (by omega) ?_
  refine Tr.aload_n (pc := 964) (i := 0) d_L_law_964 rfl rfl ?_
  refine Tr.iload_n (pc := 965) (i := 3) d_L_law_965 rfl rfl ?_
  refine Tr.iconst (pc := 966) d_L_law_966 (by decide) ?_
  refine Tr.iadd (pc := 967) d_L_law_967 ?_
  refine Tr.tp (i + 3) (w32_id (by omega)) ?_
  refine Tr.xld (pc := 968) (i := 0) d_L_law_968 rfl he (by omega) (by omega) ?_
  refine Tr.callV (pc := 969) (as := [_, _, _]) d_L_law_969 s_13_131 ok_X11_lasts rfl rfl (Nat.le_of_ble_eq_true rfl) (Nat.le_of_ble_eq_true rfl) (by decide) (ty_0 hI.1) ?_
  refine Tr.imp (xu_lasts hE hI hx (f (i + 1)) (hr _) (f (i + 2)) (hr _) (f (i + 3)) (hr _)) ?_
  rintro M1 _ ⟨hI1, hx1, f1, v1, rfl, z1⟩
  have hm1 := hm.fr f1
  have k1 := f1 120 1 (by decide) (by decide)
  have k2 := f1 120 113 (by decide) (by decide)
  refine Tr.sc [(0, v1)] rfl ?_
  refine Tr.pop (pc := 972) d_L_law_972 ne01 ?_
  refine Tr.aload_n (pc := 973) (i := 2) d_L_law_973 rfl rfl ?_
  refine Tr.aload_n (pc := 974) (i := 0) d_L_law_974 rfl rfl ?_
  refine Tr.iload_n (pc := 975) (i := 3) d_L_law_975 rfl rfl ?_
  refine Tr.iconst (pc := 976) d_L_law_976 (by decide) ?_
  refine Tr.iadd (pc := 977) d_L_law_977 ?_
  refine Tr.tp (i + 1) (w32_id (by omega)) ?_
  refine Tr.xld (pc := 978) (i := 0) d_L_law_978 rfl he (by omega) (by omega) ?_
  refine Tr.aload_n (pc := 979) (i := 0) d_L_law_979 rfl rfl ?_
  refine Tr.iload_n (pc := 980) (i := 3) d_L_law_980 rfl rfl ?_
  refine Tr.iconst (pc := 981) d_L_law_981 (by decide) ?_
  refine Tr.iadd (pc := 982) d_L_law_982 ?_
  refine Tr.tp (i + 2) (w32_id (by omega)) ?_
  refine Tr.xld (pc := 983) (i := 0) d_L_law_983 rfl he (by omega) (by omega) ?_
  refine Tr.aload_n (pc := 984) (i := 0) d_L_law_984 rfl rfl ?_
  refine Tr.iload_n (pc := 985) (i := 3) d_L_law_985 rfl rfl ?_
  refine Tr.iconst (pc := 986) d_L_law_986 (by decide) ?_
  refine Tr.iadd (pc := 987) d_L_law_987 ?_
  refine Tr.tp (i + 3) (w32_id (by omega)) ?_
  refine Tr.xld (pc := 988) (i := 0) d_L_law_988 rfl he (by omega) (by omega) ?_
  refine Tr.callV (pc := 989) (as := [_, _, _]) d_L_law_989 s_13_134 ok_X12_lasts rfl rfl (Nat.le_of_ble_eq_true rfl) (Nat.le_of_ble_eq_true rfl) (by decide) (ty_120 hI1.1) ?_
  refine Tr.imp (mu_lasts hI1 hm1 (f (i + 1)) (hr _) (f (i + 2)) (hr _) (f (i + 3)) (hr _)) ?_
  rintro M2 _ ⟨hI2, hm2, f2, v2, rfl, z2⟩
  have hx2 := hx1.fr hI1 f2
  have k3 := f2 0 1 (Or.inl (by decide))
  have k4 := f2 113 0 (Or.inl (by decide))
  refine Tr.sc [(0, v2)] rfl ?_
  refine Tr.pop (pc := 992) d_L_law_992 ne01 ?_
  refine Tr.goto (pc := 993) (tgt := 996) d_L_law_993 rfl ?_
  exact J _ ⟨hI2, hx2, hm2, by omega, by omega⟩

