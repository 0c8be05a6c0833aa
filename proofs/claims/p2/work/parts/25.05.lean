theorem d_X0_arrange_47 : decode mX0_arrange.2.2.1 47 = .ok (.istore 5, 2) := by decide +kernel
theorem d_X0_arrange_49 : decode mX0_arrange.2.2.1 49 = .ok (.iconst 1, 1) := by decide +kernel
theorem d_X0_arrange_50 : decode mX0_arrange.2.2.1 50 = .ok (.istore 6, 2) := by decide +kernel
theorem d_X0_arrange_52 : decode mX0_arrange.2.2.1 52 = .ok (.iconst 0, 1) := by decide +kernel
theorem d_X0_arrange_53 : decode mX0_arrange.2.2.1 53 = .ok (.istore 7, 2) := by decide +kernel
theorem d_X0_arrange_12 : decode mX0_arrange.2.2.1 12 = .ok (.aload_n 0, 1) := by decide +kernel
theorem d_X0_arrange_13 : decode mX0_arrange.2.2.1 13 = .ok (.getfield 21, 3) := by decide +kernel
theorem d_X0_arrange_16 : decode mX0_arrange.2.2.1 16 = .ok (.iload 4, 2) := by decide +kernel
theorem d_X0_arrange_18 : decode mX0_arrange.2.2.1 18 = .ok (.iconst 0, 1) := by decide +kernel
theorem d_X0_arrange_19 : decode mX0_arrange.2.2.1 19 = .ok (.iastore, 1) := by decide +kernel
theorem d_X0_arrange_20 : decode mX0_arrange.2.2.1 20 = .ok (.aload_n 0, 1) := by decide +kernel
theorem d_X0_arrange_21 : decode mX0_arrange.2.2.1 21 = .ok (.getfield 24, 3) := by decide +kernel
theorem d_X0_arrange_24 : decode mX0_arrange.2.2.1 24 = .ok (.iload 4, 2) := by decide +kernel
theorem d_X0_arrange_26 : decode mX0_arrange.2.2.1 26 = .ok (.iload 4, 2) := by decide +kernel
theorem d_X0_arrange_28 : decode mX0_arrange.2.2.1 28 = .ok (.iastore, 1) := by decide +kernel
theorem d_X0_arrange_29 : decode mX0_arrange.2.2.1 29 = .ok (.iinc 4 1, 3) := by decide +kernel
theorem d_X0_arrange_32 : decode mX0_arrange.2.2.1 32 = .ok (.goto (-29), 3) := by decide +kernel
theorem d_X0_arrange_55 : decode mX0_arrange.2.2.1 55 = .ok (.iload 7, 2) := by decide +kernel
theorem d_X0_arrange_57 : decode mX0_arrange.2.2.1 57 = .ok (.ldc 37, 2) := by decide +kernel
theorem k_0_37 : Jvm.Cond.constant (e_cn 0) 37 (Int32.ofInt 46656) ∈ tblG := tblG_in (inT6 (List.mem_of_getElem? (i := 136) rfl)) rfl
theorem d_X0_arrange_59 : decode mX0_arrange.2.2.1 59 = .ok (.if_icmp .ge 86, 3) := by decide +kernel
theorem d_X0_arrange_62 : decode mX0_arrange.2.2.1 62 = .ok (.iload 6, 2) := by decide +kernel
theorem d_X0_arrange_64 : decode mX0_arrange.2.2.1 64 = .ok (.ifCond .eq 81, 3) := by decide +kernel
theorem d_X0_arrange_67 : decode mX0_arrange.2.2.1 67 = .ok (.aload_n 0, 1) := by decide +kernel
theorem d_X0_arrange_68 : decode mX0_arrange.2.2.1 68 = .ok (.iload_n 1, 1) := by decide +kernel
theorem d_X0_arrange_69 : decode mX0_arrange.2.2.1 69 = .ok (.iload_n 2, 1) := by decide +kernel
theorem d_X0_arrange_70 : decode mX0_arrange.2.2.1 70 = .ok (.iload_n 3, 1) := by decide +kernel
theorem d_X0_arrange_71 : decode mX0_arrange.2.2.1 71 = .ok (.invokevirtual 38, 3) := by decide +kernel
def mX0_cost : MD := (0, yX0_cost, cX0_cost, 11, some .int)
theorem sel_X0_cost : Cond.instanceMethod mX0_cost.2.1 ∈ tblG ∧ Cond.selects mX0_cost.2.1.cls mX0_cost.2.1 mX0_cost.2.1 ∈ tblG := ⟨tblG_in (inT6 (List.mem_of_getElem? (i := 139) rfl)) rfl, tblG_in (inP5 (q := (mX0_cost.2.1, 8)) (List.mem_of_getElem? (i := 2) rfl)) rfl⟩
theorem s_0_38 : e_siteV 0 38 mX0_cost 0 := ⟨tblG_in (inT6 (List.mem_of_getElem? (i := 137) rfl)) rfl, sel_X0_cost.1, sel_X0_cost.2, rfl⟩
theorem d_X0_cost_0 : decode mX0_cost.2.2.1 0 = .ok (.aload_n 0, 1) := by decide +kernel
theorem d_X0_cost_1 : decode mX0_cost.2.2.1 1 = .ok (.invokevirtual 56, 3) := by decide +kernel
def mX0_sort : MD := (0, yX0_sort, cX0_sort, 5, none)
theorem sel_X0_sort : Cond.instanceMethod mX0_sort.2.1 ∈ tblG ∧ Cond.selects mX0_sort.2.1.cls mX0_sort.2.1 mX0_sort.2.1 ∈ tblG := ⟨tblG_in (inT6 (List.mem_of_getElem? (i := 143) rfl)) rfl, tblG_in (inP5 (q := (mX0_sort.2.1, 8)) (List.mem_of_getElem? (i := 3) rfl)) rfl⟩
theorem s_0_56 : e_siteV 0 56 mX0_sort 0 := ⟨tblG_in (inT6 (List.mem_of_getElem? (i := 141) rfl)) rfl, sel_X0_sort.1, sel_X0_sort.2, rfl⟩
theorem d_X0_sort_0 : decode mX0_sort.2.2.1 0 = .ok (.iconst 1, 1) := by decide +kernel
theorem d_X0_sort_1 : decode mX0_sort.2.2.1 1 = .ok (.istore_n 1, 1) := by decide +kernel
theorem d_X0_sort_2 : decode mX0_sort.2.2.1 2 = .ok (.iload_n 1, 1) := by decide +kernel
theorem d_X0_sort_3 : decode mX0_sort.2.2.1 3 = .ok (.aload_n 0, 1) := by decide +kernel
theorem d_X0_sort_4 : decode mX0_sort.2.2.1 4 = .ok (.getfield 30, 3) := by decide +kernel
theorem d_X0_sort_7 : decode mX0_sort.2.2.1 7 = .ok (.if_icmp .ge 101, 3) := by decide +kernel
theorem d_X0_sort_108 : decode mX0_sort.2.2.1 108 = .ok (.return_, 1) := by decide +kernel
theorem d_X0_sort_10 : decode mX0_sort.2.2.1 10 = .ok (.aload_n 0, 1) := by decide +kernel
theorem d_X0_sort_11 : decode mX0_sort.2.2.1 11 = .ok (.getfield 24, 3) := by decide +kernel
theorem d_X0_sort_14 : decode mX0_sort.2.2.1 14 = .ok (.iload_n 1, 1) := by decide +kernel
theorem d_X0_sort_15 : decode mX0_sort.2.2.1 15 = .ok (.iaload, 1) := by decide +kernel
theorem d_X0_sort_16 : decode mX0_sort.2.2.1 16 = .ok (.istore_n 2, 1) := by decide +kernel
theorem d_X0_sort_17 : decode mX0_sort.2.2.1 17 = .ok (.aload_n 0, 1) := by decide +kernel
theorem d_X0_sort_18 : decode mX0_sort.2.2.1 18 = .ok (.getfield 11, 3) := by decide +kernel
theorem d_X0_sort_21 : decode mX0_sort.2.2.1 21 = .ok (.iload_n 2, 1) := by decide +kernel
theorem d_X0_sort_22 : decode mX0_sort.2.2.1 22 = .ok (.iaload, 1) := by decide +kernel
theorem d_X0_sort_23 : decode mX0_sort.2.2.1 23 = .ok (.aload_n 0, 1) := by decide +kernel
theorem d_X0_sort_24 : decode mX0_sort.2.2.1 24 = .ok (.getfield 21, 3) := by decide +kernel
theorem d_X0_sort_27 : decode mX0_sort.2.2.1 27 = .ok (.iload_n 2, 1) := by decide +kernel
theorem d_X0_sort_28 : decode mX0_sort.2.2.1 28 = .ok (.iaload, 1) := by decide +kernel
theorem d_X0_sort_29 : decode mX0_sort.2.2.1 29 = .ok (.iadd, 1) := by decide +kernel
theorem d_X0_sort_30 : decode mX0_sort.2.2.1 30 = .ok (.istore_n 3, 1) := by decide +kernel
theorem d_X0_sort_31 : decode mX0_sort.2.2.1 31 = .ok (.iload_n 1, 1) := by decide +kernel
theorem d_X0_sort_32 : decode mX0_sort.2.2.1 32 = .ok (.istore 4, 2) := by decide +kernel
theorem d_X0_sort_34 : decode mX0_sort.2.2.1 34 = .ok (.iload 4, 2) := by decide +kernel
theorem d_X0_sort_36 : decode mX0_sort.2.2.1 36 = .ok (.ifCond .le 58, 3) := by decide +kernel
theorem d_X0_sort_39 : decode mX0_sort.2.2.1 39 = .ok (.aload_n 0, 1) := by decide +kernel
theorem d_X0_sort_40 : decode mX0_sort.2.2.1 40 = .ok (.getfield 11, 3) := by decide +kernel
theorem d_X0_sort_43 : decode mX0_sort.2.2.1 43 = .ok (.aload_n 0, 1) := by decide +kernel
theorem d_X0_sort_44 : decode mX0_sort.2.2.1 44 = .ok (.getfield 24, 3) := by decide +kernel
theorem d_X0_sort_47 : decode mX0_sort.2.2.1 47 = .ok (.iload 4, 2) := by decide +kernel
theorem d_X0_sort_49 : decode mX0_sort.2.2.1 49 = .ok (.iconst 1, 1) := by decide +kernel
theorem d_X0_sort_50 : decode mX0_sort.2.2.1 50 = .ok (.isub, 1) := by decide +kernel
theorem d_X0_sort_51 : decode mX0_sort.2.2.1 51 = .ok (.iaload, 1) := by decide +kernel
theorem d_X0_sort_52 : decode mX0_sort.2.2.1 52 = .ok (.iaload, 1) := by decide +kernel
theorem d_X0_sort_53 : decode mX0_sort.2.2.1 53 = .ok (.aload_n 0, 1) := by decide +kernel
theorem d_X0_sort_54 : decode mX0_sort.2.2.1 54 = .ok (.getfield 21, 3) := by decide +kernel
theorem d_X0_sort_57 : decode mX0_sort.2.2.1 57 = .ok (.aload_n 0, 1) := by decide +kernel
theorem d_X0_sort_58 : decode mX0_sort.2.2.1 58 = .ok (.getfield 24, 3) := by decide +kernel
theorem d_X0_sort_61 : decode mX0_sort.2.2.1 61 = .ok (.iload 4, 2) := by decide +kernel
theorem d_X0_sort_63 : decode mX0_sort.2.2.1 63 = .ok (.iconst 1, 1) := by decide +kernel
theorem d_X0_sort_64 : decode mX0_sort.2.2.1 64 = .ok (.isub, 1) := by decide +kernel
theorem d_X0_sort_65 : decode mX0_sort.2.2.1 65 = .ok (.iaload, 1) := by decide +kernel
theorem d_X0_sort_66 : decode mX0_sort.2.2.1 66 = .ok (.iaload, 1) := by decide +kernel
theorem d_X0_sort_67 : decode mX0_sort.2.2.1 67 = .ok (.iadd, 1) := by decide +kernel
theorem d_X0_sort_68 : decode mX0_sort.2.2.1 68 = .ok (.iload_n 3, 1) := by decide +kernel
theorem d_X0_sort_69 : decode mX0_sort.2.2.1 69 = .ok (.if_icmp .le 25, 3) := by decide +kernel
theorem d_X0_sort_72 : decode mX0_sort.2.2.1 72 = .ok (.aload_n 0, 1) := by decide +kernel
theorem d_X0_sort_73 : decode mX0_sort.2.2.1 73 = .ok (.getfield 24, 3) := by decide +kernel
theorem d_X0_sort_76 : decode mX0_sort.2.2.1 76 = .ok (.iload 4, 2) := by decide +kernel
theorem d_X0_sort_78 : decode mX0_sort.2.2.1 78 = .ok (.aload_n 0, 1) := by decide +kernel
theorem d_X0_sort_79 : decode mX0_sort.2.2.1 79 = .ok (.getfield 24, 3) := by decide +kernel
theorem d_X0_sort_82 : decode mX0_sort.2.2.1 82 = .ok (.iload 4, 2) := by decide +kernel
theorem d_X0_sort_84 : decode mX0_sort.2.2.1 84 = .ok (.iconst 1, 1) := by decide +kernel
theorem d_X0_sort_85 : decode mX0_sort.2.2.1 85 = .ok (.isub, 1) := by decide +kernel
theorem d_X0_sort_86 : decode mX0_sort.2.2.1 86 = .ok (.iaload, 1) := by decide +kernel
theorem d_X0_sort_87 : decode mX0_sort.2.2.1 87 = .ok (.iastore, 1) := by decide +kernel
theorem d_X0_sort_88 : decode mX0_sort.2.2.1 88 = .ok (.iinc 4 (-1), 3) := by decide +kernel
theorem d_X0_sort_91 : decode mX0_sort.2.2.1 91 = .ok (.goto (-57), 3) := by decide +kernel
theorem d_X0_sort_94 : decode mX0_sort.2.2.1 94 = .ok (.aload_n 0, 1) := by decide +kernel
theorem d_X0_sort_95 : decode mX0_sort.2.2.1 95 = .ok (.getfield 24, 3) := by decide +kernel
theorem d_X0_sort_98 : decode mX0_sort.2.2.1 98 = .ok (.iload 4, 2) := by decide +kernel
theorem d_X0_sort_100 : decode mX0_sort.2.2.1 100 = .ok (.iload_n 2, 1) := by decide +kernel
theorem d_X0_sort_101 : decode mX0_sort.2.2.1 101 = .ok (.iastore, 1) := by decide +kernel
theorem d_X0_sort_102 : decode mX0_sort.2.2.1 102 = .ok (.iinc 1 1, 3) := by decide +kernel
theorem d_X0_sort_105 : decode mX0_sort.2.2.1 105 = .ok (.goto (-103), 3) := by decide +kernel
theorem ok_X0_sort : e_m mX0_sort 0 := ⟨tblG_in (inT6 (List.mem_of_getElem? (i := 144) rfl)) rfl, plainFor_of_name (by decide), rfl, ini_0, by decide +kernel, by decide⟩
theorem d_X0_cost_4 : decode mX0_cost.2.2.1 4 = .ok (.iconst 0, 1) := by decide +kernel
theorem d_X0_cost_5 : decode mX0_cost.2.2.1 5 = .ok (.istore 4, 2) := by decide +kernel
theorem d_X0_cost_7 : decode mX0_cost.2.2.1 7 = .ok (.iconst 0, 1) := by decide +kernel
theorem d_X0_cost_8 : decode mX0_cost.2.2.1 8 = .ok (.istore 5, 2) := by decide +kernel
theorem d_X0_cost_10 : decode mX0_cost.2.2.1 10 = .ok (.iconst (-1), 1) := by decide +kernel
theorem d_X0_cost_11 : decode mX0_cost.2.2.1 11 = .ok (.istore 6, 2) := by decide +kernel
theorem d_X0_cost_13 : decode mX0_cost.2.2.1 13 = .ok (.iconst 0, 1) := by decide +kernel
theorem d_X0_cost_14 : decode mX0_cost.2.2.1 14 = .ok (.istore 7, 2) := by decide +kernel
theorem d_X0_cost_16 : decode mX0_cost.2.2.1 16 = .ok (.iload 7, 2) := by decide +kernel
theorem d_X0_cost_18 : decode mX0_cost.2.2.1 18 = .ok (.aload_n 0, 1) := by decide +kernel
theorem d_X0_cost_19 : decode mX0_cost.2.2.1 19 = .ok (.getfield 30, 3) := by decide +kernel
theorem d_X0_cost_22 : decode mX0_cost.2.2.1 22 = .ok (.if_icmp .ge 97, 3) := by decide +kernel
theorem d_X0_cost_119 : decode mX0_cost.2.2.1 119 = .ok (.iload 5, 2) := by decide +kernel
theorem d_X0_cost_121 : decode mX0_cost.2.2.1 121 = .ok (.iload_n 2, 1) := by decide +kernel
theorem d_X0_cost_122 : decode mX0_cost.2.2.1 122 = .ok (.imul, 1) := by decide +kernel
theorem d_X0_cost_123 : decode mX0_cost.2.2.1 123 = .ok (.iload 4, 2) := by decide +kernel
theorem d_X0_cost_125 : decode mX0_cost.2.2.1 125 = .ok (.iload_n 1, 1) := by decide +kernel
theorem d_X0_cost_126 : decode mX0_cost.2.2.1 126 = .ok (.imul, 1) := by decide +kernel
theorem d_X0_cost_127 : decode mX0_cost.2.2.1 127 = .ok (.iadd, 1) := by decide +kernel
theorem d_X0_cost_128 : decode mX0_cost.2.2.1 128 = .ok (.ireturn, 1) := by decide +kernel
theorem d_X0_cost_25 : decode mX0_cost.2.2.1 25 = .ok (.aload_n 0, 1) := by decide +kernel
theorem d_X0_cost_26 : decode mX0_cost.2.2.1 26 = .ok (.getfield 24, 3) := by decide +kernel
theorem d_X0_cost_29 : decode mX0_cost.2.2.1 29 = .ok (.iload 7, 2) := by decide +kernel
theorem d_X0_cost_31 : decode mX0_cost.2.2.1 31 = .ok (.iaload, 1) := by decide +kernel
theorem d_X0_cost_32 : decode mX0_cost.2.2.1 32 = .ok (.istore 8, 2) := by decide +kernel
theorem d_X0_cost_34 : decode mX0_cost.2.2.1 34 = .ok (.aload_n 0, 1) := by decide +kernel
theorem d_X0_cost_35 : decode mX0_cost.2.2.1 35 = .ok (.getfield 11, 3) := by decide +kernel
theorem d_X0_cost_38 : decode mX0_cost.2.2.1 38 = .ok (.iload 8, 2) := by decide +kernel
theorem d_X0_cost_40 : decode mX0_cost.2.2.1 40 = .ok (.iaload, 1) := by decide +kernel
theorem d_X0_cost_41 : decode mX0_cost.2.2.1 41 = .ok (.aload_n 0, 1) := by decide +kernel
theorem d_X0_cost_42 : decode mX0_cost.2.2.1 42 = .ok (.getfield 21, 3) := by decide +kernel
theorem d_X0_cost_45 : decode mX0_cost.2.2.1 45 = .ok (.iload 8, 2) := by decide +kernel
theorem d_X0_cost_47 : decode mX0_cost.2.2.1 47 = .ok (.iaload, 1) := by decide +kernel
theorem d_X0_cost_48 : decode mX0_cost.2.2.1 48 = .ok (.iadd, 1) := by decide +kernel
theorem d_X0_cost_49 : decode mX0_cost.2.2.1 49 = .ok (.istore 9, 2) := by decide +kernel
theorem d_X0_cost_51 : decode mX0_cost.2.2.1 51 = .ok (.iload 9, 2) := by decide +kernel
theorem d_X0_cost_53 : decode mX0_cost.2.2.1 53 = .ok (.aload_n 0, 1) := by decide +kernel
theorem d_X0_cost_54 : decode mX0_cost.2.2.1 54 = .ok (.getfield 15, 3) := by decide +kernel
theorem d_X0_cost_57 : decode mX0_cost.2.2.1 57 = .ok (.iload 8, 2) := by decide +kernel
theorem d_X0_cost_59 : decode mX0_cost.2.2.1 59 = .ok (.iaload, 1) := by decide +kernel
theorem d_X0_cost_60 : decode mX0_cost.2.2.1 60 = .ok (.iadd, 1) := by decide +kernel
theorem d_X0_cost_61 : decode mX0_cost.2.2.1 61 = .ok (.iload_n 3, 1) := by decide +kernel
theorem d_X0_cost_62 : decode mX0_cost.2.2.1 62 = .ok (.iadd, 1) := by decide +kernel
theorem d_X0_cost_63 : decode mX0_cost.2.2.1 63 = .ok (.istore 10, 2) := by decide +kernel
theorem d_X0_cost_65 : decode mX0_cost.2.2.1 65 = .ok (.iload 9, 2) := by decide +kernel
theorem d_X0_cost_67 : decode mX0_cost.2.2.1 67 = .ok (.iload 6, 2) := by decide +kernel
theorem d_X0_cost_69 : decode mX0_cost.2.2.1 69 = .ok (.if_icmp .le 23, 3) := by decide +kernel
theorem d_X0_cost_72 : decode mX0_cost.2.2.1 72 = .ok (.iinc 5 1, 3) := by decide +kernel
theorem d_X0_cost_75 : decode mX0_cost.2.2.1 75 = .ok (.iload 4, 2) := by decide +kernel
theorem d_X0_cost_77 : decode mX0_cost.2.2.1 77 = .ok (.iload 10, 2) := by decide +kernel
theorem d_X0_cost_79 : decode mX0_cost.2.2.1 79 = .ok (.iload 9, 2) := by decide +kernel
theorem d_X0_cost_81 : decode mX0_cost.2.2.1 81 = .ok (.isub, 1) := by decide +kernel
theorem d_X0_cost_82 : decode mX0_cost.2.2.1 82 = .ok (.iadd, 1) := by decide +kernel
theorem d_X0_cost_83 : decode mX0_cost.2.2.1 83 = .ok (.istore 4, 2) := by decide +kernel
theorem d_X0_cost_85 : decode mX0_cost.2.2.1 85 = .ok (.iload 10, 2) := by decide +kernel
theorem d_X0_cost_87 : decode mX0_cost.2.2.1 87 = .ok (.istore 6, 2) := by decide +kernel
theorem d_X0_cost_89 : decode mX0_cost.2.2.1 89 = .ok (.goto 24, 3) := by decide +kernel
theorem d_X0_cost_113 : decode mX0_cost.2.2.1 113 = .ok (.iinc 7 1, 3) := by decide +kernel
theorem d_X0_cost_116 : decode mX0_cost.2.2.1 116 = .ok (.goto (-100), 3) := by decide +kernel
theorem d_X0_cost_92 : decode mX0_cost.2.2.1 92 = .ok (.iload 10, 2) := by decide +kernel
theorem d_X0_cost_94 : decode mX0_cost.2.2.1 94 = .ok (.iload 6, 2) := by decide +kernel
theorem d_X0_cost_96 : decode mX0_cost.2.2.1 96 = .ok (.if_icmp .le 17, 3) := by decide +kernel
theorem d_X0_cost_99 : decode mX0_cost.2.2.1 99 = .ok (.iload 4, 2) := by decide +kernel
theorem d_X0_cost_101 : decode mX0_cost.2.2.1 101 = .ok (.iload 10, 2) := by decide +kernel
theorem d_X0_cost_103 : decode mX0_cost.2.2.1 103 = .ok (.iload 6, 2) := by decide +kernel
theorem d_X0_cost_105 : decode mX0_cost.2.2.1 105 = .ok (.isub, 1) := by decide +kernel
theorem d_X0_cost_106 : decode mX0_cost.2.2.1 106 = .ok (.iadd, 1) := by decide +kernel
theorem d_X0_cost_107 : decode mX0_cost.2.2.1 107 = .ok (.istore 4, 2) := by decide +kernel
theorem d_X0_cost_109 : decode mX0_cost.2.2.1 109 = .ok (.iload 10, 2) := by decide +kernel
theorem d_X0_cost_111 : decode mX0_cost.2.2.1 111 = .ok (.istore 6, 2) := by decide +kernel
theorem ok_X0_cost : e_m mX0_cost 3 := ⟨tblG_in (inT6 (List.mem_of_getElem? (i := 140) rfl)) rfl, plainFor_of_name (by decide), rfl, ini_0, by decide +kernel, by decide⟩
theorem d_X0_arrange_74 : decode mX0_arrange.2.2.1 74 = .ok (.istore 8, 2) := by decide +kernel
theorem d_X0_arrange_76 : decode mX0_arrange.2.2.1 76 = .ok (.aload_n 0, 1) := by decide +kernel
theorem d_X0_arrange_77 : decode mX0_arrange.2.2.1 77 = .ok (.invokevirtual 42, 3) := by decide +kernel
def mX0_shiftSum : MD := (0, yX0_shiftSum, cX0_shiftSum, 3, some .int)
theorem sel_X0_shiftSum : Cond.instanceMethod mX0_shiftSum.2.1 ∈ tblG ∧ Cond.selects mX0_shiftSum.2.1.cls mX0_shiftSum.2.1 mX0_shiftSum.2.1 ∈ tblG := ⟨tblG_in (inT6 (List.mem_of_getElem? (i := 147) rfl)) rfl, tblG_in (inP5 (q := (mX0_shiftSum.2.1, 8)) (List.mem_of_getElem? (i := 4) rfl)) rfl⟩
theorem s_0_42 : e_siteV 0 42 mX0_shiftSum 0 := ⟨tblG_in (inT6 (List.mem_of_getElem? (i := 145) rfl)) rfl, sel_X0_shiftSum.1, sel_X0_shiftSum.2, rfl⟩
theorem d_X0_shiftSum_0 : decode mX0_shiftSum.2.2.1 0 = .ok (.iconst 0, 1) := by decide +kernel
theorem d_X0_shiftSum_1 : decode mX0_shiftSum.2.2.1 1 = .ok (.istore_n 1, 1) := by decide +kernel
theorem d_X0_shiftSum_2 : decode mX0_shiftSum.2.2.1 2 = .ok (.iconst 0, 1) := by decide +kernel
theorem d_X0_shiftSum_3 : decode mX0_shiftSum.2.2.1 3 = .ok (.istore_n 2, 1) := by decide +kernel
theorem d_X0_shiftSum_4 : decode mX0_shiftSum.2.2.1 4 = .ok (.iload_n 2, 1) := by decide +kernel
theorem d_X0_shiftSum_5 : decode mX0_shiftSum.2.2.1 5 = .ok (.aload_n 0, 1) := by decide +kernel
theorem d_X0_shiftSum_6 : decode mX0_shiftSum.2.2.1 6 = .ok (.getfield 30, 3) := by decide +kernel
theorem d_X0_shiftSum_9 : decode mX0_shiftSum.2.2.1 9 = .ok (.if_icmp .ge 18, 3) := by decide +kernel
theorem d_X0_shiftSum_27 : decode mX0_shiftSum.2.2.1 27 = .ok (.iload_n 1, 1) := by decide +kernel
theorem d_X0_shiftSum_28 : decode mX0_shiftSum.2.2.1 28 = .ok (.ireturn, 1) := by decide +kernel
theorem d_X0_shiftSum_12 : decode mX0_shiftSum.2.2.1 12 = .ok (.iload_n 1, 1) := by decide +kernel
theorem d_X0_shiftSum_13 : decode mX0_shiftSum.2.2.1 13 = .ok (.aload_n 0, 1) := by decide +kernel
theorem d_X0_shiftSum_14 : decode mX0_shiftSum.2.2.1 14 = .ok (.getfield 21, 3) := by decide +kernel
theorem d_X0_shiftSum_17 : decode mX0_shiftSum.2.2.1 17 = .ok (.iload_n 2, 1) := by decide +kernel
theorem d_X0_shiftSum_18 : decode mX0_shiftSum.2.2.1 18 = .ok (.iaload, 1) := by decide +kernel
theorem d_X0_shiftSum_19 : decode mX0_shiftSum.2.2.1 19 = .ok (.iadd, 1) := by decide +kernel
theorem d_X0_shiftSum_20 : decode mX0_shiftSum.2.2.1 20 = .ok (.istore_n 1, 1) := by decide +kernel
theorem d_X0_shiftSum_21 : decode mX0_shiftSum.2.2.1 21 = .ok (.iinc 2 1, 3) := by decide +kernel
theorem d_X0_shiftSum_24 : decode mX0_shiftSum.2.2.1 24 = .ok (.goto (-20), 3) := by decide +kernel
theorem ok_X0_shiftSum : e_m mX0_shiftSum 0 := ⟨tblG_in (inT6 (List.mem_of_getElem? (i := 148) rfl)) rfl, plainFor_of_name (by decide), rfl, ini_0, by decide +kernel, by decide⟩
theorem d_X0_arrange_80 : decode mX0_arrange.2.2.1 80 = .ok (.istore 9, 2) := by decide +kernel
theorem d_X0_arrange_82 : decode mX0_arrange.2.2.1 82 = .ok (.iload 7, 2) := by decide +kernel
theorem d_X0_arrange_84 : decode mX0_arrange.2.2.1 84 = .ok (.ifCond .eq 24, 3) := by decide +kernel
theorem d_X0_arrange_108 : decode mX0_arrange.2.2.1 108 = .ok (.iload 8, 2) := by decide +kernel
theorem d_X0_arrange_110 : decode mX0_arrange.2.2.1 110 = .ok (.istore 4, 2) := by decide +kernel
theorem d_X0_arrange_112 : decode mX0_arrange.2.2.1 112 = .ok (.iload 9, 2) := by decide +kernel
theorem d_X0_arrange_114 : decode mX0_arrange.2.2.1 114 = .ok (.istore 5, 2) := by decide +kernel
theorem d_X0_arrange_116 : decode mX0_arrange.2.2.1 116 = .ok (.aload_n 0, 1) := by decide +kernel
theorem d_X0_arrange_117 : decode mX0_arrange.2.2.1 117 = .ok (.getfield 21, 3) := by decide +kernel
theorem d_X0_arrange_120 : decode mX0_arrange.2.2.1 120 = .ok (.iconst 0, 1) := by decide +kernel
theorem d_X0_arrange_121 : decode mX0_arrange.2.2.1 121 = .ok (.aload_n 0, 1) := by decide +kernel
theorem d_X0_arrange_122 : decode mX0_arrange.2.2.1 122 = .ok (.getfield 27, 3) := by decide +kernel
theorem d_X0_arrange_125 : decode mX0_arrange.2.2.1 125 = .ok (.iconst 0, 1) := by decide +kernel
theorem d_X0_arrange_126 : decode mX0_arrange.2.2.1 126 = .ok (.aload_n 0, 1) := by decide +kernel
theorem d_X0_arrange_127 : decode mX0_arrange.2.2.1 127 = .ok (.getfield 30, 3) := by decide +kernel
theorem d_X0_arrange_130 : decode mX0_arrange.2.2.1 130 = .ok (.invokestatic 46, 3) := by decide +kernel
theorem acw : Cond.native arraycopyName ∈ tblG ∧ Cond.static arraycopyName ∈ tblG ∧ Cond.initialized "java/lang/System" ∈ tblG := ⟨tblG_in (inT4 (List.mem_of_getElem? (i := 193) rfl)) rfl, tblG_in (inT4 (List.mem_of_getElem? (i := 192) rfl)) rfl, tblG_in (inT1 (List.mem_of_getElem? (i := 21) rfl)) rfl⟩
theorem ac_0_46 : Cond.methodLink (e_cn 0) 46 arraycopyName ∈ tblG := tblG_in (inT6 (List.mem_of_getElem? (i := 149) rfl)) rfl
theorem d_X0_arrange_133 : decode mX0_arrange.2.2.1 133 = .ok (.aload_n 0, 1) := by decide +kernel
theorem d_X0_arrange_134 : decode mX0_arrange.2.2.1 134 = .ok (.invokevirtual 52, 3) := by decide +kernel
def mX0_turnOn : MD := (0, yX0_turnOn, cX0_turnOn, 2, some .boolean)
theorem sel_X0_turnOn : Cond.instanceMethod mX0_turnOn.2.1 ∈ tblG ∧ Cond.selects mX0_turnOn.2.1.cls mX0_turnOn.2.1 mX0_turnOn.2.1 ∈ tblG := ⟨tblG_in (inT6 (List.mem_of_getElem? (i := 152) rfl)) rfl, tblG_in (inP5 (q := (mX0_turnOn.2.1, 8)) (List.mem_of_getElem? (i := 5) rfl)) rfl⟩
theorem s_0_52 : e_siteV 0 52 mX0_turnOn 0 := ⟨tblG_in (inT6 (List.mem_of_getElem? (i := 150) rfl)) rfl, sel_X0_turnOn.1, sel_X0_turnOn.2, rfl⟩
theorem d_X0_turnOn_0 : decode mX0_turnOn.2.2.1 0 = .ok (.aload_n 0, 1) := by decide +kernel
theorem d_X0_turnOn_1 : decode mX0_turnOn.2.2.1 1 = .ok (.getfield 30, 3) := by decide +kernel
theorem d_X0_turnOn_4 : decode mX0_turnOn.2.2.1 4 = .ok (.iconst 1, 1) := by decide +kernel
theorem d_X0_turnOn_5 : decode mX0_turnOn.2.2.1 5 = .ok (.isub, 1) := by decide +kernel
theorem d_X0_turnOn_6 : decode mX0_turnOn.2.2.1 6 = .ok (.istore_n 1, 1) := by decide +kernel
theorem d_X0_turnOn_7 : decode mX0_turnOn.2.2.1 7 = .ok (.iload_n 1, 1) := by decide +kernel
theorem d_X0_turnOn_8 : decode mX0_turnOn.2.2.1 8 = .ok (.ifCond .lt 43, 3) := by decide +kernel
