theorem d_L_law_622 : decode mL_law.2.2.1 622 = .ok (.iload_n 3, 1) := by decide +kernel
theorem d_L_law_623 : decode mL_law.2.2.1 623 = .ok (.iconst 2, 1) := by decide +kernel
theorem d_L_law_624 : decode mL_law.2.2.1 624 = .ok (.iadd, 1) := by decide +kernel
theorem d_L_law_625 : decode mL_law.2.2.1 625 = .ok (.iaload, 1) := by decide +kernel
theorem d_L_law_626 : decode mL_law.2.2.1 626 = .ok (.aload_n 0, 1) := by decide +kernel
theorem d_L_law_627 : decode mL_law.2.2.1 627 = .ok (.iload_n 3, 1) := by decide +kernel
theorem d_L_law_628 : decode mL_law.2.2.1 628 = .ok (.iconst 3, 1) := by decide +kernel
theorem d_L_law_629 : decode mL_law.2.2.1 629 = .ok (.iadd, 1) := by decide +kernel
theorem d_L_law_630 : decode mL_law.2.2.1 630 = .ok (.iaload, 1) := by decide +kernel
theorem d_L_law_631 : decode mL_law.2.2.1 631 = .ok (.aload_n 0, 1) := by decide +kernel
theorem d_L_law_632 : decode mL_law.2.2.1 632 = .ok (.iload_n 3, 1) := by decide +kernel
theorem d_L_law_633 : decode mL_law.2.2.1 633 = .ok (.iconst 4, 1) := by decide +kernel
theorem d_L_law_634 : decode mL_law.2.2.1 634 = .ok (.iadd, 1) := by decide +kernel
theorem d_L_law_635 : decode mL_law.2.2.1 635 = .ok (.iaload, 1) := by decide +kernel
theorem d_L_law_636 : decode mL_law.2.2.1 636 = .ok (.ifCond .eq 7, 3) := by decide +kernel
theorem d_L_law_639 : decode mL_law.2.2.1 639 = .ok (.iconst 1, 1) := by decide +kernel
theorem d_L_law_640 : decode mL_law.2.2.1 640 = .ok (.goto 4, 3) := by decide +kernel
theorem d_L_law_643 : decode mL_law.2.2.1 643 = .ok (.iconst 0, 1) := by decide +kernel
theorem d_L_law_644 : decode mL_law.2.2.1 644 = .ok (.invokevirtual 81, 3) := by decide +kernel
theorem sel_X11_byTurns : Cond.instanceMethod mX11_byTurns.2.1 ∈ tblG ∧ Cond.selects mX11_byTurns.2.1.cls mX11_byTurns.2.1 mX11_byTurns.2.1 ∈ tblG := ⟨tblG_in (inT5 (List.mem_of_getElem? (i := 236) rfl)) rfl, tblG_in (inT5 (List.mem_of_getElem? (i := 237) rfl)) rfl⟩
theorem s_13_81 : e_siteV 13 81 mX11_byTurns 11 := ⟨tblG_in (inT5 (List.mem_of_getElem? (i := 235) rfl)) rfl, sel_X11_byTurns.1, sel_X11_byTurns.2, rfl⟩
theorem ok_X11_byTurns : e_m mX11_byTurns 4 := ⟨tblG_in (inT5 (List.mem_of_getElem? (i := 238) rfl)) rfl, plainFor_of_name (by decide), rfl, ini_11, by decide +kernel, by decide⟩
theorem d_L_law_647 : decode mL_law.2.2.1 647 = .ok (.pop2, 1) := by decide +kernel
theorem d_L_law_648 : decode mL_law.2.2.1 648 = .ok (.aload_n 2, 1) := by decide +kernel
theorem d_L_law_649 : decode mL_law.2.2.1 649 = .ok (.aload_n 0, 1) := by decide +kernel
theorem d_L_law_650 : decode mL_law.2.2.1 650 = .ok (.iload_n 3, 1) := by decide +kernel
theorem d_L_law_651 : decode mL_law.2.2.1 651 = .ok (.iconst 1, 1) := by decide +kernel
theorem d_L_law_652 : decode mL_law.2.2.1 652 = .ok (.iadd, 1) := by decide +kernel
theorem d_L_law_653 : decode mL_law.2.2.1 653 = .ok (.iaload, 1) := by decide +kernel
theorem d_L_law_654 : decode mL_law.2.2.1 654 = .ok (.aload_n 0, 1) := by decide +kernel
theorem d_L_law_655 : decode mL_law.2.2.1 655 = .ok (.iload_n 3, 1) := by decide +kernel
theorem d_L_law_656 : decode mL_law.2.2.1 656 = .ok (.iconst 2, 1) := by decide +kernel
theorem d_L_law_657 : decode mL_law.2.2.1 657 = .ok (.iadd, 1) := by decide +kernel
theorem d_L_law_658 : decode mL_law.2.2.1 658 = .ok (.iaload, 1) := by decide +kernel
theorem d_L_law_659 : decode mL_law.2.2.1 659 = .ok (.aload_n 0, 1) := by decide +kernel
theorem d_L_law_660 : decode mL_law.2.2.1 660 = .ok (.iload_n 3, 1) := by decide +kernel
theorem d_L_law_661 : decode mL_law.2.2.1 661 = .ok (.iconst 3, 1) := by decide +kernel
theorem d_L_law_662 : decode mL_law.2.2.1 662 = .ok (.iadd, 1) := by decide +kernel
theorem d_L_law_663 : decode mL_law.2.2.1 663 = .ok (.iaload, 1) := by decide +kernel
theorem d_L_law_664 : decode mL_law.2.2.1 664 = .ok (.aload_n 0, 1) := by decide +kernel
theorem d_L_law_665 : decode mL_law.2.2.1 665 = .ok (.iload_n 3, 1) := by decide +kernel
theorem d_L_law_666 : decode mL_law.2.2.1 666 = .ok (.iconst 4, 1) := by decide +kernel
theorem d_L_law_667 : decode mL_law.2.2.1 667 = .ok (.iadd, 1) := by decide +kernel
theorem d_L_law_668 : decode mL_law.2.2.1 668 = .ok (.iaload, 1) := by decide +kernel
theorem d_L_law_669 : decode mL_law.2.2.1 669 = .ok (.ifCond .eq 7, 3) := by decide +kernel
theorem d_L_law_672 : decode mL_law.2.2.1 672 = .ok (.iconst 1, 1) := by decide +kernel
theorem d_L_law_673 : decode mL_law.2.2.1 673 = .ok (.goto 4, 3) := by decide +kernel
theorem d_L_law_676 : decode mL_law.2.2.1 676 = .ok (.iconst 0, 1) := by decide +kernel
theorem d_L_law_677 : decode mL_law.2.2.1 677 = .ok (.invokevirtual 85, 3) := by decide +kernel
theorem sel_X12_byTurns : Cond.instanceMethod mX12_byTurns.2.1 ∈ tblG ∧ Cond.selects mX12_byTurns.2.1.cls mX12_byTurns.2.1 mX12_byTurns.2.1 ∈ tblG := ⟨tblG_in (inT9 (List.mem_of_getElem? (i := 194) rfl)) rfl, tblG_in (inT9 (List.mem_of_getElem? (i := 195) rfl)) rfl⟩
theorem s_13_85 : e_siteV 13 85 mX12_byTurns 12 := ⟨tblG_in (inT9 (List.mem_of_getElem? (i := 193) rfl)) rfl, sel_X12_byTurns.1, sel_X12_byTurns.2, rfl⟩
theorem ok_X12_byTurns : e_m mX12_byTurns 4 := ⟨tblG_in (inT9 (List.mem_of_getElem? (i := 196) rfl)) rfl, plainFor_of_name (by decide), rfl, ini_12, by decide +kernel, by decide⟩
theorem d_L_law_680 : decode mL_law.2.2.1 680 = .ok (.pop2, 1) := by decide +kernel
theorem d_L_law_681 : decode mL_law.2.2.1 681 = .ok (.goto 315, 3) := by decide +kernel
theorem d_L_law_684 : decode mL_law.2.2.1 684 = .ok (.aload_n 1, 1) := by decide +kernel
theorem d_L_law_685 : decode mL_law.2.2.1 685 = .ok (.aload_n 0, 1) := by decide +kernel
theorem d_L_law_686 : decode mL_law.2.2.1 686 = .ok (.iload_n 3, 1) := by decide +kernel
theorem d_L_law_687 : decode mL_law.2.2.1 687 = .ok (.iconst 1, 1) := by decide +kernel
theorem d_L_law_688 : decode mL_law.2.2.1 688 = .ok (.iadd, 1) := by decide +kernel
theorem d_L_law_689 : decode mL_law.2.2.1 689 = .ok (.iaload, 1) := by decide +kernel
theorem d_L_law_690 : decode mL_law.2.2.1 690 = .ok (.invokevirtual 86, 3) := by decide +kernel
theorem sel_X11_wasted : Cond.instanceMethod mX11_wasted.2.1 ∈ tblG ∧ Cond.selects mX11_wasted.2.1.cls mX11_wasted.2.1 mX11_wasted.2.1 ∈ tblG := ⟨tblG_in (inT6 (List.mem_of_getElem? (i := 47) rfl)) rfl, tblG_in (inT6 (List.mem_of_getElem? (i := 48) rfl)) rfl⟩
theorem s_13_86 : e_siteV 13 86 mX11_wasted 11 := ⟨tblG_in (inT6 (List.mem_of_getElem? (i := 46) rfl)) rfl, sel_X11_wasted.1, sel_X11_wasted.2, rfl⟩
theorem ok_X11_wasted : e_m mX11_wasted 1 := ⟨tblG_in (inT6 (List.mem_of_getElem? (i := 49) rfl)) rfl, plainFor_of_name (by decide), rfl, ini_11, by decide +kernel, by decide⟩
theorem d_L_law_693 : decode mL_law.2.2.1 693 = .ok (.pop, 1) := by decide +kernel
theorem d_L_law_694 : decode mL_law.2.2.1 694 = .ok (.aload_n 2, 1) := by decide +kernel
theorem d_L_law_695 : decode mL_law.2.2.1 695 = .ok (.aload_n 0, 1) := by decide +kernel
theorem d_L_law_696 : decode mL_law.2.2.1 696 = .ok (.iload_n 3, 1) := by decide +kernel
theorem d_L_law_697 : decode mL_law.2.2.1 697 = .ok (.iconst 1, 1) := by decide +kernel
theorem d_L_law_698 : decode mL_law.2.2.1 698 = .ok (.iadd, 1) := by decide +kernel
theorem d_L_law_699 : decode mL_law.2.2.1 699 = .ok (.iaload, 1) := by decide +kernel
theorem d_L_law_700 : decode mL_law.2.2.1 700 = .ok (.invokevirtual 89, 3) := by decide +kernel
theorem sel_X12_wasted : Cond.instanceMethod mX12_wasted.2.1 ∈ tblG ∧ Cond.selects mX12_wasted.2.1.cls mX12_wasted.2.1 mX12_wasted.2.1 ∈ tblG := ⟨tblG_in (inT9 (List.mem_of_getElem? (i := 190) rfl)) rfl, tblG_in (inT9 (List.mem_of_getElem? (i := 191) rfl)) rfl⟩
theorem s_13_89 : e_siteV 13 89 mX12_wasted 12 := ⟨tblG_in (inT9 (List.mem_of_getElem? (i := 189) rfl)) rfl, sel_X12_wasted.1, sel_X12_wasted.2, rfl⟩
theorem ok_X12_wasted : e_m mX12_wasted 1 := ⟨tblG_in (inT9 (List.mem_of_getElem? (i := 192) rfl)) rfl, plainFor_of_name (by decide), rfl, ini_12, by decide +kernel, by decide⟩
theorem d_L_law_703 : decode mL_law.2.2.1 703 = .ok (.pop, 1) := by decide +kernel
theorem d_L_law_704 : decode mL_law.2.2.1 704 = .ok (.goto 292, 3) := by decide +kernel
theorem d_L_law_707 : decode mL_law.2.2.1 707 = .ok (.aload_n 1, 1) := by decide +kernel
theorem d_L_law_708 : decode mL_law.2.2.1 708 = .ok (.aload_n 0, 1) := by decide +kernel
theorem d_L_law_709 : decode mL_law.2.2.1 709 = .ok (.iload_n 3, 1) := by decide +kernel
theorem d_L_law_710 : decode mL_law.2.2.1 710 = .ok (.iconst 1, 1) := by decide +kernel
theorem d_L_law_711 : decode mL_law.2.2.1 711 = .ok (.iadd, 1) := by decide +kernel
theorem d_L_law_712 : decode mL_law.2.2.1 712 = .ok (.iaload, 1) := by decide +kernel
theorem d_L_law_713 : decode mL_law.2.2.1 713 = .ok (.ifCond .eq 7, 3) := by decide +kernel
theorem d_L_law_716 : decode mL_law.2.2.1 716 = .ok (.iconst 1, 1) := by decide +kernel
theorem d_L_law_717 : decode mL_law.2.2.1 717 = .ok (.goto 4, 3) := by decide +kernel
theorem d_L_law_720 : decode mL_law.2.2.1 720 = .ok (.iconst 0, 1) := by decide +kernel
theorem d_L_law_721 : decode mL_law.2.2.1 721 = .ok (.invokevirtual 90, 3) := by decide +kernel
theorem sel_X11_over : Cond.instanceMethod mX11_over.2.1 ∈ tblG ∧ Cond.selects mX11_over.2.1.cls mX11_over.2.1 mX11_over.2.1 ∈ tblG := ⟨tblG_in (inT6 (List.mem_of_getElem? (i := 51) rfl)) rfl, tblG_in (inT6 (List.mem_of_getElem? (i := 52) rfl)) rfl⟩
theorem s_13_90 : e_siteV 13 90 mX11_over 11 := ⟨tblG_in (inT6 (List.mem_of_getElem? (i := 50) rfl)) rfl, sel_X11_over.1, sel_X11_over.2, rfl⟩
theorem ok_X11_over : e_m mX11_over 1 := ⟨tblG_in (inT6 (List.mem_of_getElem? (i := 53) rfl)) rfl, plainFor_of_name (by decide), rfl, ini_11, by decide +kernel, by decide⟩
theorem d_L_law_724 : decode mL_law.2.2.1 724 = .ok (.pop, 1) := by decide +kernel
theorem d_L_law_725 : decode mL_law.2.2.1 725 = .ok (.aload_n 2, 1) := by decide +kernel
theorem d_L_law_726 : decode mL_law.2.2.1 726 = .ok (.aload_n 0, 1) := by decide +kernel
theorem d_L_law_727 : decode mL_law.2.2.1 727 = .ok (.iload_n 3, 1) := by decide +kernel
theorem d_L_law_728 : decode mL_law.2.2.1 728 = .ok (.iconst 1, 1) := by decide +kernel
theorem d_L_law_729 : decode mL_law.2.2.1 729 = .ok (.iadd, 1) := by decide +kernel
theorem d_L_law_730 : decode mL_law.2.2.1 730 = .ok (.iaload, 1) := by decide +kernel
theorem d_L_law_731 : decode mL_law.2.2.1 731 = .ok (.ifCond .eq 7, 3) := by decide +kernel
theorem d_L_law_734 : decode mL_law.2.2.1 734 = .ok (.iconst 1, 1) := by decide +kernel
theorem d_L_law_735 : decode mL_law.2.2.1 735 = .ok (.goto 4, 3) := by decide +kernel
theorem d_L_law_738 : decode mL_law.2.2.1 738 = .ok (.iconst 0, 1) := by decide +kernel
theorem d_L_law_739 : decode mL_law.2.2.1 739 = .ok (.invokevirtual 94, 3) := by decide +kernel
theorem sel_X12_over : Cond.instanceMethod mX12_over.2.1 ∈ tblG ∧ Cond.selects mX12_over.2.1.cls mX12_over.2.1 mX12_over.2.1 ∈ tblG := ⟨tblG_in (inT9 (List.mem_of_getElem? (i := 217) rfl)) rfl, tblG_in (inT9 (List.mem_of_getElem? (i := 218) rfl)) rfl⟩
theorem s_13_94 : e_siteV 13 94 mX12_over 12 := ⟨tblG_in (inT9 (List.mem_of_getElem? (i := 216) rfl)) rfl, sel_X12_over.1, sel_X12_over.2, rfl⟩
theorem ok_X12_over : e_m mX12_over 1 := ⟨tblG_in (inT9 (List.mem_of_getElem? (i := 219) rfl)) rfl, plainFor_of_name (by decide), rfl, ini_12, by decide +kernel, by decide⟩
theorem d_L_law_742 : decode mL_law.2.2.1 742 = .ok (.pop, 1) := by decide +kernel
theorem d_L_law_743 : decode mL_law.2.2.1 743 = .ok (.goto 253, 3) := by decide +kernel
theorem d_L_law_746 : decode mL_law.2.2.1 746 = .ok (.aload_n 1, 1) := by decide +kernel
theorem d_L_law_747 : decode mL_law.2.2.1 747 = .ok (.aload_n 0, 1) := by decide +kernel
theorem d_L_law_748 : decode mL_law.2.2.1 748 = .ok (.iload_n 3, 1) := by decide +kernel
theorem d_L_law_749 : decode mL_law.2.2.1 749 = .ok (.iconst 1, 1) := by decide +kernel
theorem d_L_law_750 : decode mL_law.2.2.1 750 = .ok (.iadd, 1) := by decide +kernel
theorem d_L_law_751 : decode mL_law.2.2.1 751 = .ok (.iaload, 1) := by decide +kernel
theorem d_L_law_752 : decode mL_law.2.2.1 752 = .ok (.invokevirtual 95, 3) := by decide +kernel
theorem sel_X11_where : Cond.instanceMethod mX11_where.2.1 ∈ tblG ∧ Cond.selects mX11_where.2.1.cls mX11_where.2.1 mX11_where.2.1 ∈ tblG := ⟨tblG_in (inT6 (List.mem_of_getElem? (i := 75) rfl)) rfl, tblG_in (inT6 (List.mem_of_getElem? (i := 76) rfl)) rfl⟩
theorem s_13_95 : e_siteV 13 95 mX11_where 11 := ⟨tblG_in (inT6 (List.mem_of_getElem? (i := 74) rfl)) rfl, sel_X11_where.1, sel_X11_where.2, rfl⟩
theorem ok_X11_where : e_m mX11_where 1 := ⟨tblG_in (inT6 (List.mem_of_getElem? (i := 77) rfl)) rfl, plainFor_of_name (by decide), rfl, ini_11, by decide +kernel, by decide⟩
theorem d_L_law_755 : decode mL_law.2.2.1 755 = .ok (.pop, 1) := by decide +kernel
theorem d_L_law_756 : decode mL_law.2.2.1 756 = .ok (.aload_n 2, 1) := by decide +kernel
theorem d_L_law_757 : decode mL_law.2.2.1 757 = .ok (.aload_n 0, 1) := by decide +kernel
theorem d_L_law_758 : decode mL_law.2.2.1 758 = .ok (.iload_n 3, 1) := by decide +kernel
theorem d_L_law_759 : decode mL_law.2.2.1 759 = .ok (.iconst 1, 1) := by decide +kernel
theorem d_L_law_760 : decode mL_law.2.2.1 760 = .ok (.iadd, 1) := by decide +kernel
theorem d_L_law_761 : decode mL_law.2.2.1 761 = .ok (.iaload, 1) := by decide +kernel
theorem d_L_law_762 : decode mL_law.2.2.1 762 = .ok (.invokevirtual 98, 3) := by decide +kernel
theorem sel_X12_where : Cond.instanceMethod mX12_where.2.1 ∈ tblG ∧ Cond.selects mX12_where.2.1.cls mX12_where.2.1 mX12_where.2.1 ∈ tblG := ⟨tblG_in (inT9 (List.mem_of_getElem? (i := 230) rfl)) rfl, tblG_in (inT9 (List.mem_of_getElem? (i := 231) rfl)) rfl⟩
theorem s_13_98 : e_siteV 13 98 mX12_where 12 := ⟨tblG_in (inT9 (List.mem_of_getElem? (i := 229) rfl)) rfl, sel_X12_where.1, sel_X12_where.2, rfl⟩
theorem ok_X12_where : e_m mX12_where 1 := ⟨tblG_in (inT9 (List.mem_of_getElem? (i := 232) rfl)) rfl, plainFor_of_name (by decide), rfl, ini_12, by decide +kernel, by decide⟩
theorem d_L_law_765 : decode mL_law.2.2.1 765 = .ok (.pop, 1) := by decide +kernel
theorem d_L_law_766 : decode mL_law.2.2.1 766 = .ok (.goto 230, 3) := by decide +kernel
theorem d_L_law_769 : decode mL_law.2.2.1 769 = .ok (.aload_n 1, 1) := by decide +kernel
theorem d_L_law_770 : decode mL_law.2.2.1 770 = .ok (.aload_n 0, 1) := by decide +kernel
theorem d_L_law_771 : decode mL_law.2.2.1 771 = .ok (.iload_n 3, 1) := by decide +kernel
theorem d_L_law_772 : decode mL_law.2.2.1 772 = .ok (.iconst 1, 1) := by decide +kernel
theorem d_L_law_773 : decode mL_law.2.2.1 773 = .ok (.iadd, 1) := by decide +kernel
theorem d_L_law_774 : decode mL_law.2.2.1 774 = .ok (.iaload, 1) := by decide +kernel
theorem d_L_law_775 : decode mL_law.2.2.1 775 = .ok (.invokevirtual 99, 3) := by decide +kernel
theorem sel_X11_measure : Cond.instanceMethod mX11_measure.2.1 ∈ tblG ∧ Cond.selects mX11_measure.2.1.cls mX11_measure.2.1 mX11_measure.2.1 ∈ tblG := ⟨tblG_in (inT6 (List.mem_of_getElem? (i := 83) rfl)) rfl, tblG_in (inT6 (List.mem_of_getElem? (i := 84) rfl)) rfl⟩
theorem s_13_99 : e_siteV 13 99 mX11_measure 11 := ⟨tblG_in (inT6 (List.mem_of_getElem? (i := 82) rfl)) rfl, sel_X11_measure.1, sel_X11_measure.2, rfl⟩
theorem ok_X11_measure : e_m mX11_measure 1 := ⟨tblG_in (inT6 (List.mem_of_getElem? (i := 85) rfl)) rfl, plainFor_of_name (by decide), rfl, ini_11, by decide +kernel, by decide⟩
theorem d_L_law_778 : decode mL_law.2.2.1 778 = .ok (.pop, 1) := by decide +kernel
theorem d_L_law_779 : decode mL_law.2.2.1 779 = .ok (.aload_n 2, 1) := by decide +kernel
theorem d_L_law_780 : decode mL_law.2.2.1 780 = .ok (.aload_n 0, 1) := by decide +kernel
theorem d_L_law_781 : decode mL_law.2.2.1 781 = .ok (.iload_n 3, 1) := by decide +kernel
theorem d_L_law_782 : decode mL_law.2.2.1 782 = .ok (.iconst 1, 1) := by decide +kernel
theorem d_L_law_783 : decode mL_law.2.2.1 783 = .ok (.iadd, 1) := by decide +kernel
theorem d_L_law_784 : decode mL_law.2.2.1 784 = .ok (.iaload, 1) := by decide +kernel
theorem d_L_law_785 : decode mL_law.2.2.1 785 = .ok (.invokevirtual 102, 3) := by decide +kernel
theorem sel_X12_measure : Cond.instanceMethod mX12_measure.2.1 ∈ tblG ∧ Cond.selects mX12_measure.2.1.cls mX12_measure.2.1 mX12_measure.2.1 ∈ tblG := ⟨tblG_in (inT9 (List.mem_of_getElem? (i := 234) rfl)) rfl, tblG_in (inT9 (List.mem_of_getElem? (i := 235) rfl)) rfl⟩
theorem s_13_102 : e_siteV 13 102 mX12_measure 12 := ⟨tblG_in (inT9 (List.mem_of_getElem? (i := 233) rfl)) rfl, sel_X12_measure.1, sel_X12_measure.2, rfl⟩
theorem ok_X12_measure : e_m mX12_measure 1 := ⟨tblG_in (inT9 (List.mem_of_getElem? (i := 236) rfl)) rfl, plainFor_of_name (by decide), rfl, ini_12, by decide +kernel, by decide⟩
theorem d_L_law_788 : decode mL_law.2.2.1 788 = .ok (.pop, 1) := by decide +kernel
theorem d_L_law_789 : decode mL_law.2.2.1 789 = .ok (.goto 207, 3) := by decide +kernel
theorem d_L_law_792 : decode mL_law.2.2.1 792 = .ok (.aload_n 1, 1) := by decide +kernel
theorem d_L_law_793 : decode mL_law.2.2.1 793 = .ok (.aload_n 0, 1) := by decide +kernel
theorem d_L_law_794 : decode mL_law.2.2.1 794 = .ok (.iload_n 3, 1) := by decide +kernel
theorem d_L_law_795 : decode mL_law.2.2.1 795 = .ok (.iconst 1, 1) := by decide +kernel
theorem d_L_law_796 : decode mL_law.2.2.1 796 = .ok (.iadd, 1) := by decide +kernel
theorem d_L_law_797 : decode mL_law.2.2.1 797 = .ok (.iaload, 1) := by decide +kernel
theorem d_L_law_798 : decode mL_law.2.2.1 798 = .ok (.invokevirtual 103, 3) := by decide +kernel
theorem sel_X11_fit : Cond.instanceMethod mX11_fit.2.1 ∈ tblG ∧ Cond.selects mX11_fit.2.1.cls mX11_fit.2.1 mX11_fit.2.1 ∈ tblG := ⟨tblG_in (inT6 (List.mem_of_getElem? (i := 93) rfl)) rfl, tblG_in (inT6 (List.mem_of_getElem? (i := 94) rfl)) rfl⟩
theorem s_13_103 : e_siteV 13 103 mX11_fit 11 := ⟨tblG_in (inT6 (List.mem_of_getElem? (i := 92) rfl)) rfl, sel_X11_fit.1, sel_X11_fit.2, rfl⟩
theorem ok_X11_fit : e_m mX11_fit 1 := ⟨tblG_in (inT6 (List.mem_of_getElem? (i := 95) rfl)) rfl, plainFor_of_name (by decide), rfl, ini_11, by decide +kernel, by decide⟩
theorem d_L_law_801 : decode mL_law.2.2.1 801 = .ok (.pop, 1) := by decide +kernel
theorem d_L_law_802 : decode mL_law.2.2.1 802 = .ok (.aload_n 2, 1) := by decide +kernel
theorem d_L_law_803 : decode mL_law.2.2.1 803 = .ok (.aload_n 0, 1) := by decide +kernel
theorem d_L_law_804 : decode mL_law.2.2.1 804 = .ok (.iload_n 3, 1) := by decide +kernel
theorem d_L_law_805 : decode mL_law.2.2.1 805 = .ok (.iconst 1, 1) := by decide +kernel
theorem d_L_law_806 : decode mL_law.2.2.1 806 = .ok (.iadd, 1) := by decide +kernel
theorem d_L_law_807 : decode mL_law.2.2.1 807 = .ok (.iaload, 1) := by decide +kernel
theorem d_L_law_808 : decode mL_law.2.2.1 808 = .ok (.invokevirtual 106, 3) := by decide +kernel
theorem sel_X12_fit : Cond.instanceMethod mX12_fit.2.1 ∈ tblG ∧ Cond.selects mX12_fit.2.1.cls mX12_fit.2.1 mX12_fit.2.1 ∈ tblG := ⟨tblG_in (inT9 (List.mem_of_getElem? (i := 239) rfl)) rfl, tblG_in (inT10 (List.mem_of_getElem? (i := 0) rfl)) rfl⟩
theorem s_13_106 : e_siteV 13 106 mX12_fit 12 := ⟨tblG_in (inT9 (List.mem_of_getElem? (i := 238) rfl)) rfl, sel_X12_fit.1, sel_X12_fit.2, rfl⟩
theorem ok_X12_fit : e_m mX12_fit 1 := ⟨tblG_in (inT10 (List.mem_of_getElem? (i := 1) rfl)) rfl, plainFor_of_name (by decide), rfl, ini_12, by decide +kernel, by decide⟩
theorem d_L_law_811 : decode mL_law.2.2.1 811 = .ok (.pop, 1) := by decide +kernel
theorem d_L_law_812 : decode mL_law.2.2.1 812 = .ok (.goto 184, 3) := by decide +kernel
theorem d_L_law_815 : decode mL_law.2.2.1 815 = .ok (.aload_n 1, 1) := by decide +kernel
theorem d_L_law_816 : decode mL_law.2.2.1 816 = .ok (.aload_n 0, 1) := by decide +kernel
theorem d_L_law_817 : decode mL_law.2.2.1 817 = .ok (.iload_n 3, 1) := by decide +kernel
theorem d_L_law_818 : decode mL_law.2.2.1 818 = .ok (.iconst 1, 1) := by decide +kernel
theorem d_L_law_819 : decode mL_law.2.2.1 819 = .ok (.iadd, 1) := by decide +kernel
theorem d_L_law_820 : decode mL_law.2.2.1 820 = .ok (.iaload, 1) := by decide +kernel
theorem d_L_law_821 : decode mL_law.2.2.1 821 = .ok (.invokevirtual 107, 3) := by decide +kernel
theorem sel_X11_fitted : Cond.instanceMethod mX11_fitted.2.1 ∈ tblG ∧ Cond.selects mX11_fitted.2.1.cls mX11_fitted.2.1 mX11_fitted.2.1 ∈ tblG := ⟨tblG_in (inT6 (List.mem_of_getElem? (i := 112) rfl)) rfl, tblG_in (inT6 (List.mem_of_getElem? (i := 113) rfl)) rfl⟩
theorem s_13_107 : e_siteV 13 107 mX11_fitted 11 := ⟨tblG_in (inT6 (List.mem_of_getElem? (i := 111) rfl)) rfl, sel_X11_fitted.1, sel_X11_fitted.2, rfl⟩
theorem ok_X11_fitted : e_m mX11_fitted 1 := ⟨tblG_in (inT6 (List.mem_of_getElem? (i := 114) rfl)) rfl, plainFor_of_name (by decide), rfl, ini_11, by decide +kernel, by decide⟩
theorem d_L_law_824 : decode mL_law.2.2.1 824 = .ok (.pop, 1) := by decide +kernel
theorem d_L_law_825 : decode mL_law.2.2.1 825 = .ok (.aload_n 2, 1) := by decide +kernel
theorem d_L_law_826 : decode mL_law.2.2.1 826 = .ok (.aload_n 0, 1) := by decide +kernel
theorem d_L_law_827 : decode mL_law.2.2.1 827 = .ok (.iload_n 3, 1) := by decide +kernel
theorem d_L_law_828 : decode mL_law.2.2.1 828 = .ok (.iconst 1, 1) := by decide +kernel
theorem d_L_law_829 : decode mL_law.2.2.1 829 = .ok (.iadd, 1) := by decide +kernel
theorem d_L_law_830 : decode mL_law.2.2.1 830 = .ok (.iaload, 1) := by decide +kernel
theorem d_L_law_831 : decode mL_law.2.2.1 831 = .ok (.invokevirtual 110, 3) := by decide +kernel
theorem sel_X12_fitted : Cond.instanceMethod mX12_fitted.2.1 ∈ tblG ∧ Cond.selects mX12_fitted.2.1.cls mX12_fitted.2.1 mX12_fitted.2.1 ∈ tblG := ⟨tblG_in (inT10 (List.mem_of_getElem? (i := 3) rfl)) rfl, tblG_in (inT10 (List.mem_of_getElem? (i := 4) rfl)) rfl⟩
theorem s_13_110 : e_siteV 13 110 mX12_fitted 12 := ⟨tblG_in (inT10 (List.mem_of_getElem? (i := 2) rfl)) rfl, sel_X12_fitted.1, sel_X12_fitted.2, rfl⟩
theorem ok_X12_fitted : e_m mX12_fitted 1 := ⟨tblG_in (inT10 (List.mem_of_getElem? (i := 5) rfl)) rfl, plainFor_of_name (by decide), rfl, ini_12, by decide +kernel, by decide⟩
theorem d_L_law_834 : decode mL_law.2.2.1 834 = .ok (.pop, 1) := by decide +kernel
theorem d_L_law_835 : decode mL_law.2.2.1 835 = .ok (.goto 161, 3) := by decide +kernel
theorem d_L_law_838 : decode mL_law.2.2.1 838 = .ok (.aload_n 1, 1) := by decide +kernel
theorem d_L_law_839 : decode mL_law.2.2.1 839 = .ok (.aload_n 0, 1) := by decide +kernel
theorem d_L_law_840 : decode mL_law.2.2.1 840 = .ok (.iload_n 3, 1) := by decide +kernel
theorem d_L_law_841 : decode mL_law.2.2.1 841 = .ok (.iconst 1, 1) := by decide +kernel
theorem d_L_law_842 : decode mL_law.2.2.1 842 = .ok (.iadd, 1) := by decide +kernel
theorem d_L_law_843 : decode mL_law.2.2.1 843 = .ok (.iaload, 1) := by decide +kernel
theorem d_L_law_844 : decode mL_law.2.2.1 844 = .ok (.aload_n 0, 1) := by decide +kernel
theorem d_L_law_845 : decode mL_law.2.2.1 845 = .ok (.iload_n 3, 1) := by decide +kernel
theorem d_L_law_846 : decode mL_law.2.2.1 846 = .ok (.iconst 2, 1) := by decide +kernel
theorem d_L_law_847 : decode mL_law.2.2.1 847 = .ok (.iadd, 1) := by decide +kernel
theorem d_L_law_848 : decode mL_law.2.2.1 848 = .ok (.iaload, 1) := by decide +kernel
theorem d_L_law_849 : decode mL_law.2.2.1 849 = .ok (.aload_n 0, 1) := by decide +kernel
theorem d_L_law_850 : decode mL_law.2.2.1 850 = .ok (.iload_n 3, 1) := by decide +kernel
theorem d_L_law_851 : decode mL_law.2.2.1 851 = .ok (.iconst 3, 1) := by decide +kernel
theorem d_L_law_852 : decode mL_law.2.2.1 852 = .ok (.iadd, 1) := by decide +kernel
theorem d_L_law_853 : decode mL_law.2.2.1 853 = .ok (.iaload, 1) := by decide +kernel
theorem d_L_law_854 : decode mL_law.2.2.1 854 = .ok (.invokevirtual 111, 3) := by decide +kernel
theorem sel_X11_ask : Cond.instanceMethod mX11_ask.2.1 ∈ tblG ∧ Cond.selects mX11_ask.2.1.cls mX11_ask.2.1 mX11_ask.2.1 ∈ tblG := ⟨tblG_in (inT6 (List.mem_of_getElem? (i := 116) rfl)) rfl, tblG_in (inT6 (List.mem_of_getElem? (i := 117) rfl)) rfl⟩
theorem s_13_111 : e_siteV 13 111 mX11_ask 11 := ⟨tblG_in (inT6 (List.mem_of_getElem? (i := 115) rfl)) rfl, sel_X11_ask.1, sel_X11_ask.2, rfl⟩
theorem ok_X11_ask : e_m mX11_ask 3 := ⟨tblG_in (inT6 (List.mem_of_getElem? (i := 118) rfl)) rfl, plainFor_of_name (by decide), rfl, ini_11, by decide +kernel, by decide⟩
theorem d_L_law_857 : decode mL_law.2.2.1 857 = .ok (.pop, 1) := by decide +kernel
theorem d_L_law_858 : decode mL_law.2.2.1 858 = .ok (.aload_n 2, 1) := by decide +kernel
theorem d_L_law_859 : decode mL_law.2.2.1 859 = .ok (.aload_n 0, 1) := by decide +kernel
theorem d_L_law_860 : decode mL_law.2.2.1 860 = .ok (.iload_n 3, 1) := by decide +kernel
theorem d_L_law_861 : decode mL_law.2.2.1 861 = .ok (.iconst 1, 1) := by decide +kernel
theorem d_L_law_862 : decode mL_law.2.2.1 862 = .ok (.iadd, 1) := by decide +kernel
theorem d_L_law_863 : decode mL_law.2.2.1 863 = .ok (.iaload, 1) := by decide +kernel
theorem d_L_law_864 : decode mL_law.2.2.1 864 = .ok (.aload_n 0, 1) := by decide +kernel
theorem d_L_law_865 : decode mL_law.2.2.1 865 = .ok (.iload_n 3, 1) := by decide +kernel
theorem d_L_law_866 : decode mL_law.2.2.1 866 = .ok (.iconst 2, 1) := by decide +kernel
