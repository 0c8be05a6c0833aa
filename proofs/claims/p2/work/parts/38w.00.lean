def mX12_together : MD := (12, yX12_together, cX12_together, 10, some .int)
theorem d_X12_together_0 : decode mX12_together.2.2.1 0 = .ok (.aload_n 0, 1) := by decide +kernel
theorem d_X12_together_1 : decode mX12_together.2.2.1 1 = .ok (.iload_n 1, 1) := by decide +kernel
theorem d_X12_together_2 : decode mX12_together.2.2.1 2 = .ok (.invokevirtual 555, 3) := by decide +kernel
theorem d_X12_together_5 : decode mX12_together.2.2.1 5 = .ok (.ifCond .eq 10, 3) := by decide +kernel
theorem d_X12_together_15 : decode mX12_together.2.2.1 15 = .ok (.iconst (-1), 1) := by decide +kernel
theorem d_X12_together_16 : decode mX12_together.2.2.1 16 = .ok (.ireturn, 1) := by decide +kernel
theorem d_X12_together_8 : decode mX12_together.2.2.1 8 = .ok (.aload_n 0, 1) := by decide +kernel
theorem d_X12_together_9 : decode mX12_together.2.2.1 9 = .ok (.getfield 354, 3) := by decide +kernel
theorem d_X12_together_12 : decode mX12_together.2.2.1 12 = .ok (.ifCond .ne 5, 3) := by decide +kernel
theorem d_X12_together_17 : decode mX12_together.2.2.1 17 = .ok (.iconst 0, 1) := by decide +kernel
theorem d_X12_together_18 : decode mX12_together.2.2.1 18 = .ok (.istore_n 2, 1) := by decide +kernel
theorem d_X12_together_19 : decode mX12_together.2.2.1 19 = .ok (.iload_n 2, 1) := by decide +kernel
theorem d_X12_together_20 : decode mX12_together.2.2.1 20 = .ok (.bipush 6, 2) := by decide +kernel
theorem d_X12_together_22 : decode mX12_together.2.2.1 22 = .ok (.if_icmp .ge 16, 3) := by decide +kernel
theorem d_X12_together_25 : decode mX12_together.2.2.1 25 = .ok (.aload_n 0, 1) := by decide +kernel
theorem d_X12_together_26 : decode mX12_together.2.2.1 26 = .ok (.getfield 372, 3) := by decide +kernel
theorem d_X12_together_29 : decode mX12_together.2.2.1 29 = .ok (.iload_n 2, 1) := by decide +kernel
theorem d_X12_together_30 : decode mX12_together.2.2.1 30 = .ok (.iconst 0, 1) := by decide +kernel
theorem d_X12_together_31 : decode mX12_together.2.2.1 31 = .ok (.iastore, 1) := by decide +kernel
theorem d_X12_together_32 : decode mX12_together.2.2.1 32 = .ok (.iinc 2 1, 3) := by decide +kernel
theorem d_X12_together_35 : decode mX12_together.2.2.1 35 = .ok (.goto (-16), 3) := by decide +kernel
theorem d_X12_together_38 : decode mX12_together.2.2.1 38 = .ok (.ldc2_w 686, 3) := by decide +kernel
theorem d_X12_together_41 : decode mX12_together.2.2.1 41 = .ok (.lstore_n 2, 1) := by decide +kernel
theorem d_X12_together_42 : decode mX12_together.2.2.1 42 = .ok (.iconst 0, 1) := by decide +kernel
theorem d_X12_together_43 : decode mX12_together.2.2.1 43 = .ok (.istore 4, 2) := by decide +kernel
theorem d_X12_together_45 : decode mX12_together.2.2.1 45 = .ok (.iconst 1, 1) := by decide +kernel
theorem d_X12_together_46 : decode mX12_together.2.2.1 46 = .ok (.istore 5, 2) := by decide +kernel
theorem d_X12_together_48 : decode mX12_together.2.2.1 48 = .ok (.iload 5, 2) := by decide +kernel
theorem d_X12_together_50 : decode mX12_together.2.2.1 50 = .ok (.ifCond .eq 186, 3) := by decide +kernel
theorem d_X12_together_53 : decode mX12_together.2.2.1 53 = .ok (.aload_n 0, 1) := by decide +kernel
theorem d_X12_together_54 : decode mX12_together.2.2.1 54 = .ok (.iload_n 1, 1) := by decide +kernel
theorem d_X12_together_55 : decode mX12_together.2.2.1 55 = .ok (.invokevirtual 689, 3) := by decide +kernel
def mX12_asksCost : MD := (12, yX12_asksCost, cX12_asksCost, 5, some .long)
theorem sel_X12_asksCost : Cond.instanceMethod mX12_asksCost.2.1 ∈ tblG ∧ Cond.selects mX12_asksCost.2.1.cls mX12_asksCost.2.1 mX12_asksCost.2.1 ∈ tblG := ⟨tblG_in (inT10 (List.mem_of_getElem? (i := 20) rfl)) rfl, tblG_in (inP9 (q := (mX12_asksCost.2.1, 121)) (List.mem_of_getElem? (i := 6) rfl)) rfl⟩
theorem s_12_689 : e_siteV 12 689 mX12_asksCost 12 := ⟨tblG_in (inT10 (List.mem_of_getElem? (i := 18) rfl)) rfl, sel_X12_asksCost.1, sel_X12_asksCost.2, rfl⟩
theorem d_X12_asksCost_0 : decode mX12_asksCost.2.2.1 0 = .ok (.iconst 0, 1) := by decide +kernel
theorem d_X12_asksCost_1 : decode mX12_asksCost.2.2.1 1 = .ok (.istore_n 2, 1) := by decide +kernel
theorem d_X12_asksCost_2 : decode mX12_asksCost.2.2.1 2 = .ok (.iload_n 2, 1) := by decide +kernel
theorem d_X12_asksCost_3 : decode mX12_asksCost.2.2.1 3 = .ok (.sipush 300, 3) := by decide +kernel
theorem d_X12_asksCost_6 : decode mX12_asksCost.2.2.1 6 = .ok (.if_icmp .ge 16, 3) := by decide +kernel
theorem d_X12_asksCost_9 : decode mX12_asksCost.2.2.1 9 = .ok (.aload_n 0, 1) := by decide +kernel
theorem d_X12_asksCost_10 : decode mX12_asksCost.2.2.1 10 = .ok (.getfield 321, 3) := by decide +kernel
theorem d_X12_asksCost_13 : decode mX12_asksCost.2.2.1 13 = .ok (.iload_n 2, 1) := by decide +kernel
theorem d_X12_asksCost_14 : decode mX12_asksCost.2.2.1 14 = .ok (.iconst 0, 1) := by decide +kernel
theorem d_X12_asksCost_15 : decode mX12_asksCost.2.2.1 15 = .ok (.bastore, 1) := by decide +kernel
theorem d_X12_asksCost_16 : decode mX12_asksCost.2.2.1 16 = .ok (.iinc 2 1, 3) := by decide +kernel
theorem d_X12_asksCost_19 : decode mX12_asksCost.2.2.1 19 = .ok (.goto (-17), 3) := by decide +kernel
theorem d_X12_asksCost_22 : decode mX12_asksCost.2.2.1 22 = .ok (.iconst 0, 1) := by decide +kernel
theorem d_X12_asksCost_23 : decode mX12_asksCost.2.2.1 23 = .ok (.istore_n 2, 1) := by decide +kernel
theorem d_X12_asksCost_24 : decode mX12_asksCost.2.2.1 24 = .ok (.iload_n 2, 1) := by decide +kernel
theorem d_X12_asksCost_25 : decode mX12_asksCost.2.2.1 25 = .ok (.aload_n 0, 1) := by decide +kernel
theorem d_X12_asksCost_26 : decode mX12_asksCost.2.2.1 26 = .ok (.getfield 354, 3) := by decide +kernel
theorem d_X12_asksCost_29 : decode mX12_asksCost.2.2.1 29 = .ok (.if_icmp .ge 71, 3) := by decide +kernel
theorem d_X12_asksCost_100 : decode mX12_asksCost.2.2.1 100 = .ok (.aload_n 0, 1) := by decide +kernel
theorem d_X12_asksCost_101 : decode mX12_asksCost.2.2.1 101 = .ok (.iload_n 1, 1) := by decide +kernel
theorem d_X12_asksCost_102 : decode mX12_asksCost.2.2.1 102 = .ok (.iconst 0, 1) := by decide +kernel
theorem d_X12_asksCost_103 : decode mX12_asksCost.2.2.1 103 = .ok (.sipush 300, 3) := by decide +kernel
theorem d_X12_asksCost_106 : decode mX12_asksCost.2.2.1 106 = .ok (.invokevirtual 665, 3) := by decide +kernel
def mX12_rows : MD := (12, yX12_rows, cX12_rows, 7, some .long)
theorem sel_X12_rows : Cond.instanceMethod mX12_rows.2.1 ∈ tblG ∧ Cond.selects mX12_rows.2.1.cls mX12_rows.2.1 mX12_rows.2.1 ∈ tblG := ⟨tblG_in (inT9 (List.mem_of_getElem? (i := 208) rfl)) rfl, tblG_in (inP9 (q := (mX12_rows.2.1, 121)) (List.mem_of_getElem? (i := 3) rfl)) rfl⟩
theorem s_12_665 : e_siteV 12 665 mX12_rows 12 := ⟨tblG_in (inT9 (List.mem_of_getElem? (i := 206) rfl)) rfl, sel_X12_rows.1, sel_X12_rows.2, rfl⟩
theorem d_X12_rows_0 : decode mX12_rows.2.2.1 0 = .ok (.lconst 0, 1) := by decide +kernel
theorem d_X12_rows_1 : decode mX12_rows.2.2.1 1 = .ok (.lstore 4, 2) := by decide +kernel
theorem d_X12_rows_3 : decode mX12_rows.2.2.1 3 = .ok (.iload_n 2, 1) := by decide +kernel
theorem d_X12_rows_4 : decode mX12_rows.2.2.1 4 = .ok (.istore 6, 2) := by decide +kernel
theorem d_X12_rows_6 : decode mX12_rows.2.2.1 6 = .ok (.iload 6, 2) := by decide +kernel
theorem d_X12_rows_8 : decode mX12_rows.2.2.1 8 = .ok (.iload_n 3, 1) := by decide +kernel
theorem d_X12_rows_9 : decode mX12_rows.2.2.1 9 = .ok (.if_icmp .ge 71, 3) := by decide +kernel
theorem d_X12_rows_80 : decode mX12_rows.2.2.1 80 = .ok (.lload 4, 2) := by decide +kernel
theorem d_X12_rows_82 : decode mX12_rows.2.2.1 82 = .ok (.lreturn, 1) := by decide +kernel
theorem d_X12_rows_12 : decode mX12_rows.2.2.1 12 = .ok (.aload_n 0, 1) := by decide +kernel
theorem d_X12_rows_13 : decode mX12_rows.2.2.1 13 = .ok (.getfield 321, 3) := by decide +kernel
theorem d_X12_rows_16 : decode mX12_rows.2.2.1 16 = .ok (.iload 6, 2) := by decide +kernel
theorem d_X12_rows_18 : decode mX12_rows.2.2.1 18 = .ok (.baload, 1) := by decide +kernel
theorem d_X12_rows_19 : decode mX12_rows.2.2.1 19 = .ok (.ifCond .ne 6, 3) := by decide +kernel
theorem d_X12_rows_25 : decode mX12_rows.2.2.1 25 = .ok (.lload 4, 2) := by decide +kernel
theorem d_X12_rows_27 : decode mX12_rows.2.2.1 27 = .ok (.aload_n 0, 1) := by decide +kernel
theorem d_X12_rows_28 : decode mX12_rows.2.2.1 28 = .ok (.iload_n 1, 1) := by decide +kernel
theorem d_X12_rows_29 : decode mX12_rows.2.2.1 29 = .ok (.iconst 3, 1) := by decide +kernel
theorem d_X12_rows_30 : decode mX12_rows.2.2.1 30 = .ok (.invokevirtual 565, 3) := by decide +kernel
theorem d_X12_rows_33 : decode mX12_rows.2.2.1 33 = .ok (.i2l, 1) := by decide +kernel
theorem d_X12_rows_34 : decode mX12_rows.2.2.1 34 = .ok (.ladd, 1) := by decide +kernel
theorem d_X12_rows_35 : decode mX12_rows.2.2.1 35 = .ok (.lstore 4, 2) := by decide +kernel
theorem d_X12_rows_37 : decode mX12_rows.2.2.1 37 = .ok (.iload 6, 2) := by decide +kernel
theorem d_X12_rows_39 : decode mX12_rows.2.2.1 39 = .ok (.iload_n 2, 1) := by decide +kernel
theorem d_X12_rows_40 : decode mX12_rows.2.2.1 40 = .ok (.if_icmp .eq 15, 3) := by decide +kernel
theorem d_X12_rows_22 : decode mX12_rows.2.2.1 22 = .ok (.goto 52, 3) := by decide +kernel
theorem d_X12_rows_55 : decode mX12_rows.2.2.1 55 = .ok (.lload 4, 2) := by decide +kernel
theorem d_X12_rows_57 : decode mX12_rows.2.2.1 57 = .ok (.aload_n 0, 1) := by decide +kernel
theorem d_X12_rows_58 : decode mX12_rows.2.2.1 58 = .ok (.iload_n 1, 1) := by decide +kernel
theorem d_X12_rows_59 : decode mX12_rows.2.2.1 59 = .ok (.invokevirtual 584, 3) := by decide +kernel
theorem d_X12_rows_62 : decode mX12_rows.2.2.1 62 = .ok (.i2l, 1) := by decide +kernel
theorem d_X12_rows_63 : decode mX12_rows.2.2.1 63 = .ok (.aload_n 0, 1) := by decide +kernel
theorem d_X12_rows_64 : decode mX12_rows.2.2.1 64 = .ok (.iload_n 1, 1) := by decide +kernel
theorem d_X12_rows_65 : decode mX12_rows.2.2.1 65 = .ok (.iconst 2, 1) := by decide +kernel
theorem d_X12_rows_66 : decode mX12_rows.2.2.1 66 = .ok (.invokevirtual 565, 3) := by decide +kernel
theorem d_X12_rows_69 : decode mX12_rows.2.2.1 69 = .ok (.i2l, 1) := by decide +kernel
theorem d_X12_rows_70 : decode mX12_rows.2.2.1 70 = .ok (.lmul, 1) := by decide +kernel
theorem d_X12_rows_71 : decode mX12_rows.2.2.1 71 = .ok (.ladd, 1) := by decide +kernel
theorem d_X12_rows_72 : decode mX12_rows.2.2.1 72 = .ok (.lstore 4, 2) := by decide +kernel
theorem d_X12_rows_74 : decode mX12_rows.2.2.1 74 = .ok (.iinc 6 1, 3) := by decide +kernel
theorem d_X12_rows_77 : decode mX12_rows.2.2.1 77 = .ok (.goto (-71), 3) := by decide +kernel
theorem d_X12_rows_43 : decode mX12_rows.2.2.1 43 = .ok (.aload_n 0, 1) := by decide +kernel
theorem d_X12_rows_44 : decode mX12_rows.2.2.1 44 = .ok (.getfield 321, 3) := by decide +kernel
theorem d_X12_rows_47 : decode mX12_rows.2.2.1 47 = .ok (.iload 6, 2) := by decide +kernel
theorem d_X12_rows_49 : decode mX12_rows.2.2.1 49 = .ok (.iconst 1, 1) := by decide +kernel
theorem d_X12_rows_50 : decode mX12_rows.2.2.1 50 = .ok (.isub, 1) := by decide +kernel
theorem d_X12_rows_51 : decode mX12_rows.2.2.1 51 = .ok (.baload, 1) := by decide +kernel
theorem d_X12_rows_52 : decode mX12_rows.2.2.1 52 = .ok (.ifCond .ne 22, 3) := by decide +kernel
theorem ok_X12_rows : e_m mX12_rows 3 := ⟨tblG_in (inT9 (List.mem_of_getElem? (i := 209) rfl)) rfl, plainFor_of_name (by decide), rfl, ini_12, by decide +kernel, by decide⟩
theorem d_X12_asksCost_109 : decode mX12_asksCost.2.2.1 109 = .ok (.lreturn, 1) := by decide +kernel
theorem d_X12_asksCost_32 : decode mX12_asksCost.2.2.1 32 = .ok (.aload_n 0, 1) := by decide +kernel
theorem d_X12_asksCost_33 : decode mX12_asksCost.2.2.1 33 = .ok (.getfield 357, 3) := by decide +kernel
theorem d_X12_asksCost_36 : decode mX12_asksCost.2.2.1 36 = .ok (.iload_n 2, 1) := by decide +kernel
theorem d_X12_asksCost_37 : decode mX12_asksCost.2.2.1 37 = .ok (.iaload, 1) := by decide +kernel
theorem d_X12_asksCost_38 : decode mX12_asksCost.2.2.1 38 = .ok (.aload_n 0, 1) := by decide +kernel
theorem d_X12_asksCost_39 : decode mX12_asksCost.2.2.1 39 = .ok (.getfield 372, 3) := by decide +kernel
theorem d_X12_asksCost_42 : decode mX12_asksCost.2.2.1 42 = .ok (.iload_n 2, 1) := by decide +kernel
theorem d_X12_asksCost_43 : decode mX12_asksCost.2.2.1 43 = .ok (.iaload, 1) := by decide +kernel
theorem d_X12_asksCost_44 : decode mX12_asksCost.2.2.1 44 = .ok (.iadd, 1) := by decide +kernel
theorem d_X12_asksCost_45 : decode mX12_asksCost.2.2.1 45 = .ok (.aload_n 0, 1) := by decide +kernel
theorem d_X12_asksCost_46 : decode mX12_asksCost.2.2.1 46 = .ok (.getfield 360, 3) := by decide +kernel
theorem d_X12_asksCost_49 : decode mX12_asksCost.2.2.1 49 = .ok (.iload_n 2, 1) := by decide +kernel
theorem d_X12_asksCost_50 : decode mX12_asksCost.2.2.1 50 = .ok (.iaload, 1) := by decide +kernel
theorem d_X12_asksCost_51 : decode mX12_asksCost.2.2.1 51 = .ok (.iadd, 1) := by decide +kernel
theorem d_X12_asksCost_52 : decode mX12_asksCost.2.2.1 52 = .ok (.aload_n 0, 1) := by decide +kernel
theorem d_X12_asksCost_53 : decode mX12_asksCost.2.2.1 53 = .ok (.iload_n 1, 1) := by decide +kernel
theorem d_X12_asksCost_54 : decode mX12_asksCost.2.2.1 54 = .ok (.invokevirtual 591, 3) := by decide +kernel
theorem d_X12_asksCost_57 : decode mX12_asksCost.2.2.1 57 = .ok (.iadd, 1) := by decide +kernel
theorem d_X12_asksCost_58 : decode mX12_asksCost.2.2.1 58 = .ok (.istore_n 3, 1) := by decide +kernel
theorem d_X12_asksCost_59 : decode mX12_asksCost.2.2.1 59 = .ok (.aload_n 0, 1) := by decide +kernel
theorem d_X12_asksCost_60 : decode mX12_asksCost.2.2.1 60 = .ok (.getfield 357, 3) := by decide +kernel
theorem d_X12_asksCost_63 : decode mX12_asksCost.2.2.1 63 = .ok (.iload_n 2, 1) := by decide +kernel
theorem d_X12_asksCost_64 : decode mX12_asksCost.2.2.1 64 = .ok (.iaload, 1) := by decide +kernel
theorem d_X12_asksCost_65 : decode mX12_asksCost.2.2.1 65 = .ok (.aload_n 0, 1) := by decide +kernel
theorem d_X12_asksCost_66 : decode mX12_asksCost.2.2.1 66 = .ok (.getfield 372, 3) := by decide +kernel
theorem d_X12_asksCost_69 : decode mX12_asksCost.2.2.1 69 = .ok (.iload_n 2, 1) := by decide +kernel
theorem d_X12_asksCost_70 : decode mX12_asksCost.2.2.1 70 = .ok (.iaload, 1) := by decide +kernel
theorem d_X12_asksCost_71 : decode mX12_asksCost.2.2.1 71 = .ok (.iadd, 1) := by decide +kernel
theorem d_X12_asksCost_72 : decode mX12_asksCost.2.2.1 72 = .ok (.istore 4, 2) := by decide +kernel
theorem d_X12_asksCost_74 : decode mX12_asksCost.2.2.1 74 = .ok (.iload 4, 2) := by decide +kernel
theorem d_X12_asksCost_76 : decode mX12_asksCost.2.2.1 76 = .ok (.iload_n 3, 1) := by decide +kernel
theorem d_X12_asksCost_77 : decode mX12_asksCost.2.2.1 77 = .ok (.if_icmp .ge 17, 3) := by decide +kernel
theorem d_X12_asksCost_94 : decode mX12_asksCost.2.2.1 94 = .ok (.iinc 2 1, 3) := by decide +kernel
theorem d_X12_asksCost_97 : decode mX12_asksCost.2.2.1 97 = .ok (.goto (-73), 3) := by decide +kernel
theorem d_X12_asksCost_80 : decode mX12_asksCost.2.2.1 80 = .ok (.aload_n 0, 1) := by decide +kernel
theorem d_X12_asksCost_81 : decode mX12_asksCost.2.2.1 81 = .ok (.getfield 321, 3) := by decide +kernel
theorem d_X12_asksCost_84 : decode mX12_asksCost.2.2.1 84 = .ok (.iload 4, 2) := by decide +kernel
theorem d_X12_asksCost_86 : decode mX12_asksCost.2.2.1 86 = .ok (.iconst 1, 1) := by decide +kernel
theorem d_X12_asksCost_87 : decode mX12_asksCost.2.2.1 87 = .ok (.bastore, 1) := by decide +kernel
theorem d_X12_asksCost_88 : decode mX12_asksCost.2.2.1 88 = .ok (.iinc 4 1, 3) := by decide +kernel
theorem d_X12_asksCost_91 : decode mX12_asksCost.2.2.1 91 = .ok (.goto (-17), 3) := by decide +kernel
theorem ok_X12_asksCost : e_m mX12_asksCost 1 := ⟨tblG_in (inT10 (List.mem_of_getElem? (i := 21) rfl)) rfl, plainFor_of_name (by decide), rfl, ini_12, by decide +kernel, by decide⟩
theorem d_X12_together_58 : decode mX12_together.2.2.1 58 = .ok (.lstore 6, 2) := by decide +kernel
theorem d_X12_together_60 : decode mX12_together.2.2.1 60 = .ok (.iconst 0, 1) := by decide +kernel
theorem d_X12_together_61 : decode mX12_together.2.2.1 61 = .ok (.istore 8, 2) := by decide +kernel
theorem d_X12_together_63 : decode mX12_together.2.2.1 63 = .ok (.iconst 0, 1) := by decide +kernel
theorem d_X12_together_64 : decode mX12_together.2.2.1 64 = .ok (.istore 9, 2) := by decide +kernel
theorem d_X12_together_66 : decode mX12_together.2.2.1 66 = .ok (.iload 9, 2) := by decide +kernel
theorem d_X12_together_68 : decode mX12_together.2.2.1 68 = .ok (.aload_n 0, 1) := by decide +kernel
theorem d_X12_together_69 : decode mX12_together.2.2.1 69 = .ok (.getfield 354, 3) := by decide +kernel
theorem d_X12_together_72 : decode mX12_together.2.2.1 72 = .ok (.if_icmp .ge 21, 3) := by decide +kernel
theorem d_X12_together_75 : decode mX12_together.2.2.1 75 = .ok (.iload 8, 2) := by decide +kernel
theorem d_X12_together_77 : decode mX12_together.2.2.1 77 = .ok (.aload_n 0, 1) := by decide +kernel
theorem d_X12_together_78 : decode mX12_together.2.2.1 78 = .ok (.getfield 372, 3) := by decide +kernel
theorem d_X12_together_81 : decode mX12_together.2.2.1 81 = .ok (.iload 9, 2) := by decide +kernel
theorem d_X12_together_83 : decode mX12_together.2.2.1 83 = .ok (.iaload, 1) := by decide +kernel
theorem d_X12_together_84 : decode mX12_together.2.2.1 84 = .ok (.iadd, 1) := by decide +kernel
theorem d_X12_together_85 : decode mX12_together.2.2.1 85 = .ok (.istore 8, 2) := by decide +kernel
theorem d_X12_together_87 : decode mX12_together.2.2.1 87 = .ok (.iinc 9 1, 3) := by decide +kernel
theorem d_X12_together_90 : decode mX12_together.2.2.1 90 = .ok (.goto (-24), 3) := by decide +kernel
theorem d_X12_together_93 : decode mX12_together.2.2.1 93 = .ok (.lload_n 2, 1) := by decide +kernel
theorem d_X12_together_94 : decode mX12_together.2.2.1 94 = .ok (.ldc2_w 686, 3) := by decide +kernel
theorem d_X12_together_97 : decode mX12_together.2.2.1 97 = .ok (.lcmp, 1) := by decide +kernel
theorem d_X12_together_98 : decode mX12_together.2.2.1 98 = .ok (.ifCond .eq 24, 3) := by decide +kernel
theorem d_X12_together_101 : decode mX12_together.2.2.1 101 = .ok (.lload 6, 2) := by decide +kernel
theorem d_X12_together_103 : decode mX12_together.2.2.1 103 = .ok (.lload_n 2, 1) := by decide +kernel
theorem d_X12_together_104 : decode mX12_together.2.2.1 104 = .ok (.lcmp, 1) := by decide +kernel
theorem d_X12_together_105 : decode mX12_together.2.2.1 105 = .ok (.ifCond .lt 17, 3) := by decide +kernel
theorem d_X12_together_108 : decode mX12_together.2.2.1 108 = .ok (.lload 6, 2) := by decide +kernel
theorem d_X12_together_110 : decode mX12_together.2.2.1 110 = .ok (.lload_n 2, 1) := by decide +kernel
theorem d_X12_together_111 : decode mX12_together.2.2.1 111 = .ok (.lcmp, 1) := by decide +kernel
theorem d_X12_together_112 : decode mX12_together.2.2.1 112 = .ok (.ifCond .ne 49, 3) := by decide +kernel
theorem d_X12_together_115 : decode mX12_together.2.2.1 115 = .ok (.iload 8, 2) := by decide +kernel
theorem d_X12_together_117 : decode mX12_together.2.2.1 117 = .ok (.iload 4, 2) := by decide +kernel
theorem d_X12_together_119 : decode mX12_together.2.2.1 119 = .ok (.if_icmp .ge 42, 3) := by decide +kernel
theorem d_X12_together_122 : decode mX12_together.2.2.1 122 = .ok (.lload 6, 2) := by decide +kernel
theorem d_X12_together_124 : decode mX12_together.2.2.1 124 = .ok (.lstore_n 2, 1) := by decide +kernel
theorem d_X12_together_125 : decode mX12_together.2.2.1 125 = .ok (.iload 8, 2) := by decide +kernel
theorem d_X12_together_127 : decode mX12_together.2.2.1 127 = .ok (.istore 4, 2) := by decide +kernel
theorem d_X12_together_129 : decode mX12_together.2.2.1 129 = .ok (.iconst 0, 1) := by decide +kernel
theorem d_X12_together_130 : decode mX12_together.2.2.1 130 = .ok (.istore 9, 2) := by decide +kernel
theorem d_X12_together_132 : decode mX12_together.2.2.1 132 = .ok (.iload 9, 2) := by decide +kernel
theorem d_X12_together_134 : decode mX12_together.2.2.1 134 = .ok (.aload_n 0, 1) := by decide +kernel
theorem d_X12_together_135 : decode mX12_together.2.2.1 135 = .ok (.getfield 354, 3) := by decide +kernel
theorem d_X12_together_138 : decode mX12_together.2.2.1 138 = .ok (.if_icmp .ge 23, 3) := by decide +kernel
theorem d_X12_together_141 : decode mX12_together.2.2.1 141 = .ok (.aload_n 0, 1) := by decide +kernel
theorem d_X12_together_142 : decode mX12_together.2.2.1 142 = .ok (.getfield 369, 3) := by decide +kernel
theorem d_X12_together_145 : decode mX12_together.2.2.1 145 = .ok (.iload 9, 2) := by decide +kernel
theorem d_X12_together_147 : decode mX12_together.2.2.1 147 = .ok (.aload_n 0, 1) := by decide +kernel
theorem d_X12_together_148 : decode mX12_together.2.2.1 148 = .ok (.getfield 372, 3) := by decide +kernel
theorem d_X12_together_151 : decode mX12_together.2.2.1 151 = .ok (.iload 9, 2) := by decide +kernel
theorem d_X12_together_153 : decode mX12_together.2.2.1 153 = .ok (.iaload, 1) := by decide +kernel
theorem d_X12_together_154 : decode mX12_together.2.2.1 154 = .ok (.iastore, 1) := by decide +kernel
theorem d_X12_together_155 : decode mX12_together.2.2.1 155 = .ok (.iinc 9 1, 3) := by decide +kernel
theorem d_X12_together_158 : decode mX12_together.2.2.1 158 = .ok (.goto (-26), 3) := by decide +kernel
theorem d_X12_together_161 : decode mX12_together.2.2.1 161 = .ok (.aload_n 0, 1) := by decide +kernel
theorem d_X12_together_162 : decode mX12_together.2.2.1 162 = .ok (.getfield 354, 3) := by decide +kernel
theorem d_X12_together_165 : decode mX12_together.2.2.1 165 = .ok (.iconst 1, 1) := by decide +kernel
theorem d_X12_together_166 : decode mX12_together.2.2.1 166 = .ok (.isub, 1) := by decide +kernel
theorem d_X12_together_167 : decode mX12_together.2.2.1 167 = .ok (.istore 9, 2) := by decide +kernel
theorem d_X12_together_169 : decode mX12_together.2.2.1 169 = .ok (.iload 9, 2) := by decide +kernel
theorem d_X12_together_171 : decode mX12_together.2.2.1 171 = .ok (.ifCond .lt 34, 3) := by decide +kernel
theorem d_X12_together_174 : decode mX12_together.2.2.1 174 = .ok (.aload_n 0, 1) := by decide +kernel
theorem d_X12_together_175 : decode mX12_together.2.2.1 175 = .ok (.getfield 372, 3) := by decide +kernel
theorem d_X12_together_178 : decode mX12_together.2.2.1 178 = .ok (.iload 9, 2) := by decide +kernel
theorem d_X12_together_180 : decode mX12_together.2.2.1 180 = .ok (.iaload, 1) := by decide +kernel
theorem d_X12_together_181 : decode mX12_together.2.2.1 181 = .ok (.aload_n 0, 1) := by decide +kernel
theorem d_X12_together_182 : decode mX12_together.2.2.1 182 = .ok (.getfield 363, 3) := by decide +kernel
theorem d_X12_together_185 : decode mX12_together.2.2.1 185 = .ok (.iload 9, 2) := by decide +kernel
theorem d_X12_together_187 : decode mX12_together.2.2.1 187 = .ok (.iaload, 1) := by decide +kernel
theorem d_X12_together_188 : decode mX12_together.2.2.1 188 = .ok (.if_icmp .ne 17, 3) := by decide +kernel
theorem d_X12_together_191 : decode mX12_together.2.2.1 191 = .ok (.aload_n 0, 1) := by decide +kernel
theorem d_X12_together_192 : decode mX12_together.2.2.1 192 = .ok (.getfield 372, 3) := by decide +kernel
theorem d_X12_together_195 : decode mX12_together.2.2.1 195 = .ok (.iload 9, 2) := by decide +kernel
theorem d_X12_together_197 : decode mX12_together.2.2.1 197 = .ok (.iconst 0, 1) := by decide +kernel
theorem d_X12_together_198 : decode mX12_together.2.2.1 198 = .ok (.iastore, 1) := by decide +kernel
theorem d_X12_together_199 : decode mX12_together.2.2.1 199 = .ok (.iinc 9 (-1), 3) := by decide +kernel
theorem d_X12_together_202 : decode mX12_together.2.2.1 202 = .ok (.goto (-33), 3) := by decide +kernel
