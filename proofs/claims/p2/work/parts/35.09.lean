theorem d_X12_holds_31 : decode mX12_holds.2.2.1 31 = .ok (.goto 4, 3) := by decide +kernel
theorem d_X12_holds_9 : decode mX12_holds.2.2.1 9 = .ok (.iconst 1, 1) := by decide +kernel
theorem d_X12_holds_10 : decode mX12_holds.2.2.1 10 = .ok (.ireturn, 1) := by decide +kernel
theorem d_X12_holds_35 : decode mX12_holds.2.2.1 35 = .ok (.istore 4, 2) := by decide +kernel
theorem d_X12_holds_37 : decode mX12_holds.2.2.1 37 = .ok (.aload_n 0, 1) := by decide +kernel
theorem d_X12_holds_38 : decode mX12_holds.2.2.1 38 = .ok (.iload_n 1, 1) := by decide +kernel
theorem d_X12_holds_39 : decode mX12_holds.2.2.1 39 = .ok (.iconst 1, 1) := by decide +kernel
theorem d_X12_holds_40 : decode mX12_holds.2.2.1 40 = .ok (.iload 4, 2) := by decide +kernel
theorem d_X12_holds_42 : decode mX12_holds.2.2.1 42 = .ok (.iload_n 2, 1) := by decide +kernel
theorem d_X12_holds_43 : decode mX12_holds.2.2.1 43 = .ok (.iconst 1, 1) := by decide +kernel
theorem d_X12_holds_44 : decode mX12_holds.2.2.1 44 = .ok (.iload_n 3, 1) := by decide +kernel
theorem d_X12_holds_45 : decode mX12_holds.2.2.1 45 = .ok (.invokevirtual 587, 3) := by decide +kernel
theorem d_X12_holds_48 : decode mX12_holds.2.2.1 48 = .ok (.ifCond .ne 24, 3) := by decide +kernel
theorem d_X12_holds_72 : decode mX12_holds.2.2.1 72 = .ok (.iload 4, 2) := by decide +kernel
theorem d_X12_holds_74 : decode mX12_holds.2.2.1 74 = .ok (.ifCond .ne 10, 3) := by decide +kernel
theorem d_X12_holds_77 : decode mX12_holds.2.2.1 77 = .ok (.aload_n 0, 1) := by decide +kernel
theorem d_X12_holds_78 : decode mX12_holds.2.2.1 78 = .ok (.iload_n 1, 1) := by decide +kernel
theorem d_X12_holds_79 : decode mX12_holds.2.2.1 79 = .ok (.iload_n 2, 1) := by decide +kernel
theorem d_X12_holds_80 : decode mX12_holds.2.2.1 80 = .ok (.iload_n 3, 1) := by decide +kernel
theorem d_X12_holds_81 : decode mX12_holds.2.2.1 81 = .ok (.invokevirtual 580, 3) := by decide +kernel
theorem d_X12_holds_51 : decode mX12_holds.2.2.1 51 = .ok (.aload_n 0, 1) := by decide +kernel
theorem d_X12_holds_52 : decode mX12_holds.2.2.1 52 = .ok (.aload_n 0, 1) := by decide +kernel
theorem d_X12_holds_53 : decode mX12_holds.2.2.1 53 = .ok (.getfield 201, 3) := by decide +kernel
theorem d_X12_holds_56 : decode mX12_holds.2.2.1 56 = .ok (.iload_n 3, 1) := by decide +kernel
theorem d_X12_holds_57 : decode mX12_holds.2.2.1 57 = .ok (.iconst 1, 1) := by decide +kernel
theorem d_X12_holds_58 : decode mX12_holds.2.2.1 58 = .ok (.iadd, 1) := by decide +kernel
theorem d_X12_holds_59 : decode mX12_holds.2.2.1 59 = .ok (.if_icmp .le 7, 3) := by decide +kernel
theorem d_X12_holds_66 : decode mX12_holds.2.2.1 66 = .ok (.iconst (-1), 1) := by decide +kernel
theorem d_X12_holds_67 : decode mX12_holds.2.2.1 67 = .ok (.putfield 195, 3) := by decide +kernel
theorem d_X12_holds_70 : decode mX12_holds.2.2.1 70 = .ok (.iconst 0, 1) := by decide +kernel
theorem d_X12_holds_71 : decode mX12_holds.2.2.1 71 = .ok (.ireturn, 1) := by decide +kernel
theorem d_X12_holds_62 : decode mX12_holds.2.2.1 62 = .ok (.iload_n 1, 1) := by decide +kernel
theorem d_X12_holds_63 : decode mX12_holds.2.2.1 63 = .ok (.goto 4, 3) := by decide +kernel
theorem d_X12_holds_84 : decode mX12_holds.2.2.1 84 = .ok (.aload_n 0, 1) := by decide +kernel
theorem d_X12_holds_85 : decode mX12_holds.2.2.1 85 = .ok (.getfield 177, 3) := by decide +kernel
theorem d_X12_holds_88 : decode mX12_holds.2.2.1 88 = .ok (.iload_n 1, 1) := by decide +kernel
theorem d_X12_holds_89 : decode mX12_holds.2.2.1 89 = .ok (.iconst 1, 1) := by decide +kernel
theorem d_X12_holds_90 : decode mX12_holds.2.2.1 90 = .ok (.bastore, 1) := by decide +kernel
theorem d_X12_holds_91 : decode mX12_holds.2.2.1 91 = .ok (.aload_n 0, 1) := by decide +kernel
theorem d_X12_holds_92 : decode mX12_holds.2.2.1 92 = .ok (.getfield 180, 3) := by decide +kernel
theorem d_X12_holds_95 : decode mX12_holds.2.2.1 95 = .ok (.iload_n 1, 1) := by decide +kernel
theorem d_X12_holds_96 : decode mX12_holds.2.2.1 96 = .ok (.iload_n 2, 1) := by decide +kernel
theorem d_X12_holds_97 : decode mX12_holds.2.2.1 97 = .ok (.iastore, 1) := by decide +kernel
theorem d_X12_holds_98 : decode mX12_holds.2.2.1 98 = .ok (.iconst 1, 1) := by decide +kernel
theorem d_X12_holds_99 : decode mX12_holds.2.2.1 99 = .ok (.ireturn, 1) := by decide +kernel
theorem ok_X12_holds : e_m mX12_holds 2 := ⟨tblG_in (inT9 (List.mem_of_getElem? (i := 123) rfl)) rfl, plainFor_of_name (by decide), rfl, ini_12, by decide +kernel, by decide⟩
theorem d_X12_does_93 : decode mX12_does.2.2.1 93 = .ok (.ireturn, 1) := by decide +kernel
theorem d_X12_does_70 : decode mX12_does.2.2.1 70 = .ok (.aload_n 0, 1) := by decide +kernel
theorem d_X12_does_71 : decode mX12_does.2.2.1 71 = .ok (.iload_n 3, 1) := by decide +kernel
theorem d_X12_does_72 : decode mX12_does.2.2.1 72 = .ok (.aload_n 0, 1) := by decide +kernel
theorem d_X12_does_73 : decode mX12_does.2.2.1 73 = .ok (.iload_n 1, 1) := by decide +kernel
theorem d_X12_does_74 : decode mX12_does.2.2.1 74 = .ok (.invokevirtual 614, 3) := by decide +kernel
theorem d_X12_does_77 : decode mX12_does.2.2.1 77 = .ok (.bipush 50, 2) := by decide +kernel
theorem d_X12_does_79 : decode mX12_does.2.2.1 79 = .ok (.invokestatic 618, 3) := by decide +kernel
theorem d_X12_does_82 : decode mX12_does.2.2.1 82 = .ok (.iload_n 2, 1) := by decide +kernel
theorem d_X12_does_83 : decode mX12_does.2.2.1 83 = .ok (.invokevirtual 621, 3) := by decide +kernel
def mX12_uses : MD := (12, yX12_uses, cX12_uses, 6, some .boolean)
theorem sel_X12_uses : Cond.instanceMethod mX12_uses.2.1 ∈ tblG ∧ Cond.selects mX12_uses.2.1.cls mX12_uses.2.1 mX12_uses.2.1 ∈ tblG := ⟨tblG_in (inT9 (List.mem_of_getElem? (i := 102) rfl)) rfl, tblG_in (inP8 (q := (mX12_uses.2.1, 121)) (List.mem_of_getElem? (i := 3) rfl)) rfl⟩
theorem s_12_621 : e_siteV 12 621 mX12_uses 12 := ⟨tblG_in (inT9 (List.mem_of_getElem? (i := 100) rfl)) rfl, sel_X12_uses.1, sel_X12_uses.2, rfl⟩
theorem d_X12_uses_0 : decode mX12_uses.2.2.1 0 = .ok (.aload_n 0, 1) := by decide +kernel
theorem d_X12_uses_1 : decode mX12_uses.2.2.1 1 = .ok (.getfield 201, 3) := by decide +kernel
theorem d_X12_uses_4 : decode mX12_uses.2.2.1 4 = .ok (.iconst 1, 1) := by decide +kernel
theorem d_X12_uses_5 : decode mX12_uses.2.2.1 5 = .ok (.isub, 1) := by decide +kernel
theorem d_X12_uses_6 : decode mX12_uses.2.2.1 6 = .ok (.istore 4, 2) := by decide +kernel
theorem d_X12_uses_8 : decode mX12_uses.2.2.1 8 = .ok (.aload_n 0, 1) := by decide +kernel
theorem d_X12_uses_9 : decode mX12_uses.2.2.1 9 = .ok (.iload_n 1, 1) := by decide +kernel
theorem d_X12_uses_10 : decode mX12_uses.2.2.1 10 = .ok (.invokevirtual 571, 3) := by decide +kernel
theorem d_X12_uses_13 : decode mX12_uses.2.2.1 13 = .ok (.ifCond .ne 11, 3) := by decide +kernel
theorem d_X12_uses_24 : decode mX12_uses.2.2.1 24 = .ok (.iconst 0, 1) := by decide +kernel
theorem d_X12_uses_16 : decode mX12_uses.2.2.1 16 = .ok (.aload_n 0, 1) := by decide +kernel
theorem d_X12_uses_17 : decode mX12_uses.2.2.1 17 = .ok (.iload_n 1, 1) := by decide +kernel
theorem d_X12_uses_18 : decode mX12_uses.2.2.1 18 = .ok (.invokevirtual 584, 3) := by decide +kernel
theorem d_X12_uses_21 : decode mX12_uses.2.2.1 21 = .ok (.goto 4, 3) := by decide +kernel
theorem d_X12_uses_25 : decode mX12_uses.2.2.1 25 = .ok (.istore 5, 2) := by decide +kernel
theorem d_X12_uses_27 : decode mX12_uses.2.2.1 27 = .ok (.aload_n 0, 1) := by decide +kernel
theorem d_X12_uses_28 : decode mX12_uses.2.2.1 28 = .ok (.iload_n 1, 1) := by decide +kernel
theorem d_X12_uses_29 : decode mX12_uses.2.2.1 29 = .ok (.iconst 1, 1) := by decide +kernel
theorem d_X12_uses_30 : decode mX12_uses.2.2.1 30 = .ok (.iload 5, 2) := by decide +kernel
theorem d_X12_uses_32 : decode mX12_uses.2.2.1 32 = .ok (.iload_n 3, 1) := by decide +kernel
theorem d_X12_uses_33 : decode mX12_uses.2.2.1 33 = .ok (.iconst 1, 1) := by decide +kernel
theorem d_X12_uses_34 : decode mX12_uses.2.2.1 34 = .ok (.iload 4, 2) := by decide +kernel
theorem d_X12_uses_36 : decode mX12_uses.2.2.1 36 = .ok (.invokevirtual 587, 3) := by decide +kernel
theorem d_X12_uses_39 : decode mX12_uses.2.2.1 39 = .ok (.ifCond .eq 26, 3) := by decide +kernel
theorem d_X12_uses_42 : decode mX12_uses.2.2.1 42 = .ok (.aload_n 0, 1) := by decide +kernel
theorem d_X12_uses_43 : decode mX12_uses.2.2.1 43 = .ok (.iload_n 1, 1) := by decide +kernel
theorem d_X12_uses_44 : decode mX12_uses.2.2.1 44 = .ok (.iconst 3, 1) := by decide +kernel
theorem d_X12_uses_45 : decode mX12_uses.2.2.1 45 = .ok (.iload_n 2, 1) := by decide +kernel
theorem d_X12_uses_46 : decode mX12_uses.2.2.1 46 = .ok (.iload_n 3, 1) := by decide +kernel
theorem d_X12_uses_47 : decode mX12_uses.2.2.1 47 = .ok (.iload 5, 2) := by decide +kernel
theorem d_X12_uses_49 : decode mX12_uses.2.2.1 49 = .ok (.ifCond .ne 7, 3) := by decide +kernel
theorem d_X12_uses_56 : decode mX12_uses.2.2.1 56 = .ok (.iconst 0, 1) := by decide +kernel
theorem d_X12_uses_52 : decode mX12_uses.2.2.1 52 = .ok (.iconst 1, 1) := by decide +kernel
theorem d_X12_uses_53 : decode mX12_uses.2.2.1 53 = .ok (.goto 4, 3) := by decide +kernel
theorem d_X12_uses_57 : decode mX12_uses.2.2.1 57 = .ok (.iload 4, 2) := by decide +kernel
theorem d_X12_uses_59 : decode mX12_uses.2.2.1 59 = .ok (.invokevirtual 587, 3) := by decide +kernel
theorem d_X12_uses_62 : decode mX12_uses.2.2.1 62 = .ok (.ifCond .ne 25, 3) := by decide +kernel
theorem d_X12_uses_87 : decode mX12_uses.2.2.1 87 = .ok (.iload 5, 2) := by decide +kernel
theorem d_X12_uses_89 : decode mX12_uses.2.2.1 89 = .ok (.iload_n 2, 1) := by decide +kernel
theorem d_X12_uses_90 : decode mX12_uses.2.2.1 90 = .ok (.iadd, 1) := by decide +kernel
theorem d_X12_uses_91 : decode mX12_uses.2.2.1 91 = .ok (.ifCond .ne 11, 3) := by decide +kernel
theorem d_X12_uses_94 : decode mX12_uses.2.2.1 94 = .ok (.aload_n 0, 1) := by decide +kernel
theorem d_X12_uses_95 : decode mX12_uses.2.2.1 95 = .ok (.iload_n 1, 1) := by decide +kernel
theorem d_X12_uses_96 : decode mX12_uses.2.2.1 96 = .ok (.iload_n 3, 1) := by decide +kernel
theorem d_X12_uses_97 : decode mX12_uses.2.2.1 97 = .ok (.iload 4, 2) := by decide +kernel
theorem d_X12_uses_99 : decode mX12_uses.2.2.1 99 = .ok (.invokevirtual 580, 3) := by decide +kernel
theorem d_X12_uses_102 : decode mX12_uses.2.2.1 102 = .ok (.iload_n 2, 1) := by decide +kernel
theorem d_X12_uses_103 : decode mX12_uses.2.2.1 103 = .ok (.ifCond .ne 53, 3) := by decide +kernel
theorem d_X12_uses_106 : decode mX12_uses.2.2.1 106 = .ok (.aload_n 0, 1) := by decide +kernel
theorem d_X12_uses_107 : decode mX12_uses.2.2.1 107 = .ok (.getfield 225, 3) := by decide +kernel
theorem d_X12_uses_110 : decode mX12_uses.2.2.1 110 = .ok (.ifCond .eq 46, 3) := by decide +kernel
theorem d_X12_uses_113 : decode mX12_uses.2.2.1 113 = .ok (.aload_n 0, 1) := by decide +kernel
theorem d_X12_uses_114 : decode mX12_uses.2.2.1 114 = .ok (.getfield 255, 3) := by decide +kernel
theorem d_X12_uses_117 : decode mX12_uses.2.2.1 117 = .ok (.aload_n 0, 1) := by decide +kernel
theorem d_X12_uses_118 : decode mX12_uses.2.2.1 118 = .ok (.getfield 252, 3) := by decide +kernel
theorem d_X12_uses_121 : decode mX12_uses.2.2.1 121 = .ok (.iload_n 1, 1) := by decide +kernel
theorem d_X12_uses_122 : decode mX12_uses.2.2.1 122 = .ok (.iastore, 1) := by decide +kernel
theorem d_X12_uses_123 : decode mX12_uses.2.2.1 123 = .ok (.aload_n 0, 1) := by decide +kernel
theorem d_X12_uses_124 : decode mX12_uses.2.2.1 124 = .ok (.getfield 258, 3) := by decide +kernel
theorem d_X12_uses_127 : decode mX12_uses.2.2.1 127 = .ok (.aload_n 0, 1) := by decide +kernel
theorem d_X12_uses_128 : decode mX12_uses.2.2.1 128 = .ok (.getfield 252, 3) := by decide +kernel
theorem d_X12_uses_131 : decode mX12_uses.2.2.1 131 = .ok (.iload_n 3, 1) := by decide +kernel
theorem d_X12_uses_132 : decode mX12_uses.2.2.1 132 = .ok (.iastore, 1) := by decide +kernel
theorem d_X12_uses_133 : decode mX12_uses.2.2.1 133 = .ok (.aload_n 0, 1) := by decide +kernel
theorem d_X12_uses_134 : decode mX12_uses.2.2.1 134 = .ok (.getfield 261, 3) := by decide +kernel
theorem d_X12_uses_137 : decode mX12_uses.2.2.1 137 = .ok (.aload_n 0, 1) := by decide +kernel
theorem d_X12_uses_138 : decode mX12_uses.2.2.1 138 = .ok (.getfield 252, 3) := by decide +kernel
theorem d_X12_uses_141 : decode mX12_uses.2.2.1 141 = .ok (.aload_n 0, 1) := by decide +kernel
theorem d_X12_uses_142 : decode mX12_uses.2.2.1 142 = .ok (.getfield 201, 3) := by decide +kernel
theorem d_X12_uses_145 : decode mX12_uses.2.2.1 145 = .ok (.iastore, 1) := by decide +kernel
theorem d_X12_uses_146 : decode mX12_uses.2.2.1 146 = .ok (.aload_n 0, 1) := by decide +kernel
theorem d_X12_uses_147 : decode mX12_uses.2.2.1 147 = .ok (.dup, 1) := by decide +kernel
theorem d_X12_uses_148 : decode mX12_uses.2.2.1 148 = .ok (.getfield 252, 3) := by decide +kernel
theorem d_X12_uses_151 : decode mX12_uses.2.2.1 151 = .ok (.iconst 1, 1) := by decide +kernel
theorem d_X12_uses_152 : decode mX12_uses.2.2.1 152 = .ok (.iadd, 1) := by decide +kernel
theorem d_X12_uses_153 : decode mX12_uses.2.2.1 153 = .ok (.putfield 252, 3) := by decide +kernel
theorem d_X12_uses_156 : decode mX12_uses.2.2.1 156 = .ok (.aload_n 0, 1) := by decide +kernel
theorem d_X12_uses_157 : decode mX12_uses.2.2.1 157 = .ok (.getfield 183, 3) := by decide +kernel
theorem d_X12_uses_160 : decode mX12_uses.2.2.1 160 = .ok (.iload_n 1, 1) := by decide +kernel
theorem d_X12_uses_161 : decode mX12_uses.2.2.1 161 = .ok (.aload_n 0, 1) := by decide +kernel
theorem d_X12_uses_162 : decode mX12_uses.2.2.1 162 = .ok (.iload_n 1, 1) := by decide +kernel
theorem d_X12_uses_163 : decode mX12_uses.2.2.1 163 = .ok (.invokevirtual 591, 3) := by decide +kernel
theorem d_X12_uses_166 : decode mX12_uses.2.2.1 166 = .ok (.iastore, 1) := by decide +kernel
theorem d_X12_uses_167 : decode mX12_uses.2.2.1 167 = .ok (.iconst 1, 1) := by decide +kernel
theorem d_X12_uses_168 : decode mX12_uses.2.2.1 168 = .ok (.ireturn, 1) := by decide +kernel
theorem d_X12_uses_65 : decode mX12_uses.2.2.1 65 = .ok (.aload_n 0, 1) := by decide +kernel
theorem d_X12_uses_66 : decode mX12_uses.2.2.1 66 = .ok (.aload_n 0, 1) := by decide +kernel
theorem d_X12_uses_67 : decode mX12_uses.2.2.1 67 = .ok (.getfield 201, 3) := by decide +kernel
theorem d_X12_uses_70 : decode mX12_uses.2.2.1 70 = .ok (.iload 4, 2) := by decide +kernel
theorem d_X12_uses_72 : decode mX12_uses.2.2.1 72 = .ok (.iconst 1, 1) := by decide +kernel
theorem d_X12_uses_73 : decode mX12_uses.2.2.1 73 = .ok (.iadd, 1) := by decide +kernel
theorem d_X12_uses_74 : decode mX12_uses.2.2.1 74 = .ok (.if_icmp .le 7, 3) := by decide +kernel
theorem d_X12_uses_81 : decode mX12_uses.2.2.1 81 = .ok (.iconst (-1), 1) := by decide +kernel
theorem d_X12_uses_82 : decode mX12_uses.2.2.1 82 = .ok (.putfield 195, 3) := by decide +kernel
theorem d_X12_uses_85 : decode mX12_uses.2.2.1 85 = .ok (.iconst 0, 1) := by decide +kernel
theorem d_X12_uses_86 : decode mX12_uses.2.2.1 86 = .ok (.ireturn, 1) := by decide +kernel
theorem d_X12_uses_77 : decode mX12_uses.2.2.1 77 = .ok (.iload_n 1, 1) := by decide +kernel
theorem d_X12_uses_78 : decode mX12_uses.2.2.1 78 = .ok (.goto 4, 3) := by decide +kernel
theorem ok_X12_uses : e_m mX12_uses 3 := ⟨tblG_in (inT9 (List.mem_of_getElem? (i := 103) rfl)) rfl, plainFor_of_name (by decide), rfl, ini_12, by decide +kernel, by decide⟩
theorem d_X12_does_86 : decode mX12_does.2.2.1 86 = .ok (.ireturn, 1) := by decide +kernel
theorem d_X12_does_56 : decode mX12_does.2.2.1 56 = .ok (.aload_n 0, 1) := by decide +kernel
theorem d_X12_does_57 : decode mX12_does.2.2.1 57 = .ok (.getfield 174, 3) := by decide +kernel
theorem d_X12_does_60 : decode mX12_does.2.2.1 60 = .ok (.iload_n 3, 1) := by decide +kernel
theorem d_X12_does_61 : decode mX12_does.2.2.1 61 = .ok (.aload_n 0, 1) := by decide +kernel
theorem d_X12_does_62 : decode mX12_does.2.2.1 62 = .ok (.iload_n 1, 1) := by decide +kernel
theorem d_X12_does_63 : decode mX12_does.2.2.1 63 = .ok (.invokevirtual 614, 3) := by decide +kernel
theorem d_X12_does_66 : decode mX12_does.2.2.1 66 = .ok (.l2i, 1) := by decide +kernel
theorem d_X12_does_67 : decode mX12_does.2.2.1 67 = .ok (.iastore, 1) := by decide +kernel
theorem d_X12_does_68 : decode mX12_does.2.2.1 68 = .ok (.iconst 1, 1) := by decide +kernel
theorem d_X12_does_69 : decode mX12_does.2.2.1 69 = .ok (.ireturn, 1) := by decide +kernel
theorem ok_X12_does : e_m mX12_does 1 := ⟨tblG_in (inT9 (List.mem_of_getElem? (i := 96) rfl)) rfl, plainFor_of_name (by decide), rfl, ini_12, by decide +kernel, by decide⟩
theorem d_X12_runs_296 : decode mX12_runs.2.2.1 296 = .ok (.istore 5, 2) := by decide +kernel
theorem d_X12_runs_298 : decode mX12_runs.2.2.1 298 = .ok (.iload 5, 2) := by decide +kernel
theorem d_X12_runs_300 : decode mX12_runs.2.2.1 300 = .ok (.ifCond .ne 14, 3) := by decide +kernel
theorem d_X12_runs_303 : decode mX12_runs.2.2.1 303 = .ok (.aload_n 0, 1) := by decide +kernel
theorem d_X12_runs_304 : decode mX12_runs.2.2.1 304 = .ok (.aload_n 0, 1) := by decide +kernel
theorem d_X12_runs_305 : decode mX12_runs.2.2.1 305 = .ok (.getfield 100, 3) := by decide +kernel
theorem d_X12_runs_308 : decode mX12_runs.2.2.1 308 = .ok (.iload 4, 2) := by decide +kernel
theorem d_X12_runs_310 : decode mX12_runs.2.2.1 310 = .ok (.iaload, 1) := by decide +kernel
theorem d_X12_runs_311 : decode mX12_runs.2.2.1 311 = .ok (.putfield 267, 3) := by decide +kernel
theorem d_X12_runs_314 : decode mX12_runs.2.2.1 314 = .ok (.goto (-152), 3) := by decide +kernel
theorem d_X12_runs_324 : decode mX12_runs.2.2.1 324 = .ok (.aload_n 0, 1) := by decide +kernel
theorem d_X12_runs_325 : decode mX12_runs.2.2.1 325 = .ok (.getfield 219, 3) := by decide +kernel
theorem d_X12_runs_328 : decode mX12_runs.2.2.1 328 = .ok (.ireturn, 1) := by decide +kernel
theorem ok_X12_runs : e_m mX12_runs 1 := ⟨tblG_in (inT9 (List.mem_of_getElem? (i := 53) rfl)) rfl, plainFor_of_name (by decide), rfl, ini_12, by decide +kernel, by decide⟩
theorem d_X12_fit_63 : decode mX12_fit.2.2.1 63 = .ok (.istore_n 3, 1) := by decide +kernel
theorem d_X12_fit_64 : decode mX12_fit.2.2.1 64 = .ok (.aload_n 0, 1) := by decide +kernel
theorem d_X12_fit_65 : decode mX12_fit.2.2.1 65 = .ok (.getfield 351, 3) := by decide +kernel
theorem d_X12_fit_68 : decode mX12_fit.2.2.1 68 = .ok (.iconst 3, 1) := by decide +kernel
theorem d_X12_fit_69 : decode mX12_fit.2.2.1 69 = .ok (.iload_n 2, 1) := by decide +kernel
theorem d_X12_fit_70 : decode mX12_fit.2.2.1 70 = .ok (.imul, 1) := by decide +kernel
theorem d_X12_fit_71 : decode mX12_fit.2.2.1 71 = .ok (.aload_n 0, 1) := by decide +kernel
theorem d_X12_fit_72 : decode mX12_fit.2.2.1 72 = .ok (.getfield 222, 3) := by decide +kernel
theorem d_X12_fit_75 : decode mX12_fit.2.2.1 75 = .ok (.iconst 4, 1) := by decide +kernel
theorem d_X12_fit_76 : decode mX12_fit.2.2.1 76 = .ok (.iload_n 1, 1) := by decide +kernel
theorem d_X12_fit_77 : decode mX12_fit.2.2.1 77 = .ok (.imul, 1) := by decide +kernel
theorem d_X12_fit_78 : decode mX12_fit.2.2.1 78 = .ok (.iconst 0, 1) := by decide +kernel
theorem d_X12_fit_79 : decode mX12_fit.2.2.1 79 = .ok (.iadd, 1) := by decide +kernel
theorem d_X12_fit_80 : decode mX12_fit.2.2.1 80 = .ok (.iaload, 1) := by decide +kernel
theorem d_X12_fit_81 : decode mX12_fit.2.2.1 81 = .ok (.iastore, 1) := by decide +kernel
theorem d_X12_fit_82 : decode mX12_fit.2.2.1 82 = .ok (.aload_n 0, 1) := by decide +kernel
theorem d_X12_fit_83 : decode mX12_fit.2.2.1 83 = .ok (.getfield 351, 3) := by decide +kernel
theorem d_X12_fit_86 : decode mX12_fit.2.2.1 86 = .ok (.iconst 3, 1) := by decide +kernel
theorem d_X12_fit_87 : decode mX12_fit.2.2.1 87 = .ok (.iload_n 2, 1) := by decide +kernel
theorem d_X12_fit_88 : decode mX12_fit.2.2.1 88 = .ok (.imul, 1) := by decide +kernel
theorem d_X12_fit_89 : decode mX12_fit.2.2.1 89 = .ok (.iconst 1, 1) := by decide +kernel
theorem d_X12_fit_90 : decode mX12_fit.2.2.1 90 = .ok (.iadd, 1) := by decide +kernel
theorem d_X12_fit_91 : decode mX12_fit.2.2.1 91 = .ok (.aload_n 0, 1) := by decide +kernel
theorem d_X12_fit_92 : decode mX12_fit.2.2.1 92 = .ok (.getfield 222, 3) := by decide +kernel
theorem d_X12_fit_95 : decode mX12_fit.2.2.1 95 = .ok (.iconst 4, 1) := by decide +kernel
theorem d_X12_fit_96 : decode mX12_fit.2.2.1 96 = .ok (.iload_n 1, 1) := by decide +kernel
theorem d_X12_fit_97 : decode mX12_fit.2.2.1 97 = .ok (.imul, 1) := by decide +kernel
theorem d_X12_fit_98 : decode mX12_fit.2.2.1 98 = .ok (.iconst 2, 1) := by decide +kernel
theorem d_X12_fit_99 : decode mX12_fit.2.2.1 99 = .ok (.iadd, 1) := by decide +kernel
theorem d_X12_fit_100 : decode mX12_fit.2.2.1 100 = .ok (.iaload, 1) := by decide +kernel
theorem d_X12_fit_101 : decode mX12_fit.2.2.1 101 = .ok (.iastore, 1) := by decide +kernel
theorem d_X12_fit_102 : decode mX12_fit.2.2.1 102 = .ok (.aload_n 0, 1) := by decide +kernel
theorem d_X12_fit_103 : decode mX12_fit.2.2.1 103 = .ok (.getfield 351, 3) := by decide +kernel
theorem d_X12_fit_106 : decode mX12_fit.2.2.1 106 = .ok (.iconst 3, 1) := by decide +kernel
theorem d_X12_fit_107 : decode mX12_fit.2.2.1 107 = .ok (.iload_n 2, 1) := by decide +kernel
theorem d_X12_fit_108 : decode mX12_fit.2.2.1 108 = .ok (.imul, 1) := by decide +kernel
theorem d_X12_fit_109 : decode mX12_fit.2.2.1 109 = .ok (.iconst 2, 1) := by decide +kernel
theorem d_X12_fit_110 : decode mX12_fit.2.2.1 110 = .ok (.iadd, 1) := by decide +kernel
theorem d_X12_fit_111 : decode mX12_fit.2.2.1 111 = .ok (.aload_n 0, 1) := by decide +kernel
theorem d_X12_fit_112 : decode mX12_fit.2.2.1 112 = .ok (.getfield 222, 3) := by decide +kernel
theorem d_X12_fit_115 : decode mX12_fit.2.2.1 115 = .ok (.iconst 4, 1) := by decide +kernel
theorem d_X12_fit_116 : decode mX12_fit.2.2.1 116 = .ok (.iload_n 1, 1) := by decide +kernel
theorem d_X12_fit_117 : decode mX12_fit.2.2.1 117 = .ok (.imul, 1) := by decide +kernel
theorem d_X12_fit_118 : decode mX12_fit.2.2.1 118 = .ok (.iconst 3, 1) := by decide +kernel
theorem d_X12_fit_119 : decode mX12_fit.2.2.1 119 = .ok (.iadd, 1) := by decide +kernel
theorem d_X12_fit_120 : decode mX12_fit.2.2.1 120 = .ok (.iaload, 1) := by decide +kernel
