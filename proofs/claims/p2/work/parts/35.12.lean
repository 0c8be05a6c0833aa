theorem d_X12_over_30 : decode mX12_over.2.2.1 30 = .ok (.iconst 0, 1) := by decide +kernel
theorem d_X12_over_31 : decode mX12_over.2.2.1 31 = .ok (.istore 5, 2) := by decide +kernel
theorem d_X12_over_23 : decode mX12_over.2.2.1 23 = .ok (.iconst (-1), 1) := by decide +kernel
theorem d_X12_over_24 : decode mX12_over.2.2.1 24 = .ok (.ireturn, 1) := by decide +kernel
theorem d_X12_over_33 : decode mX12_over.2.2.1 33 = .ok (.iload 5, 2) := by decide +kernel
theorem d_X12_over_35 : decode mX12_over.2.2.1 35 = .ok (.aload_n 0, 1) := by decide +kernel
theorem d_X12_over_36 : decode mX12_over.2.2.1 36 = .ok (.iconst 0, 1) := by decide +kernel
theorem d_X12_over_37 : decode mX12_over.2.2.1 37 = .ok (.invokevirtual 680, 3) := by decide +kernel
theorem d_X12_over_40 : decode mX12_over.2.2.1 40 = .ok (.if_icmp .ge 168, 3) := by decide +kernel
theorem d_X12_over_208 : decode mX12_over.2.2.1 208 = .ok (.aload_n 0, 1) := by decide +kernel
theorem d_X12_over_209 : decode mX12_over.2.2.1 209 = .ok (.iconst 1, 1) := by decide +kernel
theorem d_X12_over_210 : decode mX12_over.2.2.1 210 = .ok (.putfield 327, 3) := by decide +kernel
theorem d_X12_over_213 : decode mX12_over.2.2.1 213 = .ok (.lload_n 2, 1) := by decide +kernel
theorem d_X12_over_214 : decode mX12_over.2.2.1 214 = .ok (.l2i, 1) := by decide +kernel
theorem d_X12_over_215 : decode mX12_over.2.2.1 215 = .ok (.ireturn, 1) := by decide +kernel
theorem d_X12_over_43 : decode mX12_over.2.2.1 43 = .ok (.iconst 0, 1) := by decide +kernel
theorem d_X12_over_44 : decode mX12_over.2.2.1 44 = .ok (.istore 6, 2) := by decide +kernel
theorem d_X12_over_46 : decode mX12_over.2.2.1 46 = .ok (.iload 6, 2) := by decide +kernel
theorem d_X12_over_48 : decode mX12_over.2.2.1 48 = .ok (.aload_n 0, 1) := by decide +kernel
theorem d_X12_over_49 : decode mX12_over.2.2.1 49 = .ok (.iconst 1, 1) := by decide +kernel
theorem d_X12_over_50 : decode mX12_over.2.2.1 50 = .ok (.invokevirtual 680, 3) := by decide +kernel
theorem d_X12_over_53 : decode mX12_over.2.2.1 53 = .ok (.if_icmp .ge 149, 3) := by decide +kernel
theorem d_X12_over_202 : decode mX12_over.2.2.1 202 = .ok (.iinc 5 1, 3) := by decide +kernel
theorem d_X12_over_205 : decode mX12_over.2.2.1 205 = .ok (.goto (-172), 3) := by decide +kernel
theorem d_X12_over_56 : decode mX12_over.2.2.1 56 = .ok (.iconst 0, 1) := by decide +kernel
theorem d_X12_over_57 : decode mX12_over.2.2.1 57 = .ok (.istore 7, 2) := by decide +kernel
theorem d_X12_over_59 : decode mX12_over.2.2.1 59 = .ok (.iload 7, 2) := by decide +kernel
theorem d_X12_over_61 : decode mX12_over.2.2.1 61 = .ok (.aload_n 0, 1) := by decide +kernel
theorem d_X12_over_62 : decode mX12_over.2.2.1 62 = .ok (.iconst 2, 1) := by decide +kernel
theorem d_X12_over_63 : decode mX12_over.2.2.1 63 = .ok (.invokevirtual 680, 3) := by decide +kernel
theorem d_X12_over_66 : decode mX12_over.2.2.1 66 = .ok (.if_icmp .ge 130, 3) := by decide +kernel
theorem d_X12_over_196 : decode mX12_over.2.2.1 196 = .ok (.iinc 6 1, 3) := by decide +kernel
theorem d_X12_over_199 : decode mX12_over.2.2.1 199 = .ok (.goto (-153), 3) := by decide +kernel
theorem d_X12_over_69 : decode mX12_over.2.2.1 69 = .ok (.aload_n 0, 1) := by decide +kernel
theorem d_X12_over_70 : decode mX12_over.2.2.1 70 = .ok (.getfield 171, 3) := by decide +kernel
theorem d_X12_over_73 : decode mX12_over.2.2.1 73 = .ok (.iconst 0, 1) := by decide +kernel
theorem d_X12_over_74 : decode mX12_over.2.2.1 74 = .ok (.aload_n 0, 1) := by decide +kernel
theorem d_X12_over_75 : decode mX12_over.2.2.1 75 = .ok (.iconst 0, 1) := by decide +kernel
theorem d_X12_over_76 : decode mX12_over.2.2.1 76 = .ok (.invokevirtual 683, 3) := by decide +kernel
def mX12_lowOf : MD := (12, yX12_lowOf, cX12_lowOf, 2, some .int)
theorem sel_X12_lowOf : Cond.instanceMethod mX12_lowOf.2.1 ∈ tblG ∧ Cond.selects mX12_lowOf.2.1.cls mX12_lowOf.2.1 mX12_lowOf.2.1 ∈ tblG := ⟨tblG_in (inT9 (List.mem_of_getElem? (i := 226) rfl)) rfl, tblG_in (inP9 (q := (mX12_lowOf.2.1, 121)) (List.mem_of_getElem? (i := 5) rfl)) rfl⟩
theorem s_12_683 : e_siteV 12 683 mX12_lowOf 12 := ⟨tblG_in (inT9 (List.mem_of_getElem? (i := 224) rfl)) rfl, sel_X12_lowOf.1, sel_X12_lowOf.2, rfl⟩
theorem d_X12_lowOf_0 : decode mX12_lowOf.2.2.1 0 = .ok (.iload_n 1, 1) := by decide +kernel
theorem d_X12_lowOf_1 : decode mX12_lowOf.2.2.1 1 = .ok (.aload_n 0, 1) := by decide +kernel
theorem d_X12_lowOf_2 : decode mX12_lowOf.2.2.1 2 = .ok (.getfield 66, 3) := by decide +kernel
theorem d_X12_lowOf_5 : decode mX12_lowOf.2.2.1 5 = .ok (.aload_n 0, 1) := by decide +kernel
theorem d_X12_lowOf_6 : decode mX12_lowOf.2.2.1 6 = .ok (.getfield 48, 3) := by decide +kernel
theorem d_X12_lowOf_9 : decode mX12_lowOf.2.2.1 9 = .ok (.iaload, 1) := by decide +kernel
theorem d_X12_lowOf_10 : decode mX12_lowOf.2.2.1 10 = .ok (.if_icmp .ge 19, 3) := by decide +kernel
theorem d_X12_lowOf_29 : decode mX12_lowOf.2.2.1 29 = .ok (.iconst 0, 1) := by decide +kernel
theorem d_X12_lowOf_30 : decode mX12_lowOf.2.2.1 30 = .ok (.ireturn, 1) := by decide +kernel
theorem d_X12_lowOf_13 : decode mX12_lowOf.2.2.1 13 = .ok (.aload_n 0, 1) := by decide +kernel
theorem d_X12_lowOf_14 : decode mX12_lowOf.2.2.1 14 = .ok (.getfield 85, 3) := by decide +kernel
theorem d_X12_lowOf_17 : decode mX12_lowOf.2.2.1 17 = .ok (.iconst 3, 1) := by decide +kernel
theorem d_X12_lowOf_18 : decode mX12_lowOf.2.2.1 18 = .ok (.aload_n 0, 1) := by decide +kernel
theorem d_X12_lowOf_19 : decode mX12_lowOf.2.2.1 19 = .ok (.getfield 48, 3) := by decide +kernel
theorem d_X12_lowOf_22 : decode mX12_lowOf.2.2.1 22 = .ok (.imul, 1) := by decide +kernel
theorem d_X12_lowOf_23 : decode mX12_lowOf.2.2.1 23 = .ok (.iload_n 1, 1) := by decide +kernel
theorem d_X12_lowOf_24 : decode mX12_lowOf.2.2.1 24 = .ok (.iadd, 1) := by decide +kernel
theorem d_X12_lowOf_25 : decode mX12_lowOf.2.2.1 25 = .ok (.iaload, 1) := by decide +kernel
theorem d_X12_lowOf_26 : decode mX12_lowOf.2.2.1 26 = .ok (.goto 4, 3) := by decide +kernel
theorem ok_X12_lowOf : e_m mX12_lowOf 1 := ⟨tblG_in (inT9 (List.mem_of_getElem? (i := 227) rfl)) rfl, plainFor_of_name (by decide), rfl, ini_12, by decide +kernel, by decide⟩
theorem d_X12_over_79 : decode mX12_over.2.2.1 79 = .ok (.iload 5, 2) := by decide +kernel
theorem d_X12_over_81 : decode mX12_over.2.2.1 81 = .ok (.iadd, 1) := by decide +kernel
theorem d_X12_over_82 : decode mX12_over.2.2.1 82 = .ok (.iastore, 1) := by decide +kernel
theorem d_X12_over_83 : decode mX12_over.2.2.1 83 = .ok (.aload_n 0, 1) := by decide +kernel
theorem d_X12_over_84 : decode mX12_over.2.2.1 84 = .ok (.getfield 171, 3) := by decide +kernel
theorem d_X12_over_87 : decode mX12_over.2.2.1 87 = .ok (.iconst 1, 1) := by decide +kernel
theorem d_X12_over_88 : decode mX12_over.2.2.1 88 = .ok (.aload_n 0, 1) := by decide +kernel
theorem d_X12_over_89 : decode mX12_over.2.2.1 89 = .ok (.iconst 1, 1) := by decide +kernel
theorem d_X12_over_90 : decode mX12_over.2.2.1 90 = .ok (.invokevirtual 683, 3) := by decide +kernel
theorem d_X12_over_93 : decode mX12_over.2.2.1 93 = .ok (.iload 6, 2) := by decide +kernel
theorem d_X12_over_95 : decode mX12_over.2.2.1 95 = .ok (.iadd, 1) := by decide +kernel
theorem d_X12_over_96 : decode mX12_over.2.2.1 96 = .ok (.iastore, 1) := by decide +kernel
theorem d_X12_over_97 : decode mX12_over.2.2.1 97 = .ok (.aload_n 0, 1) := by decide +kernel
theorem d_X12_over_98 : decode mX12_over.2.2.1 98 = .ok (.getfield 171, 3) := by decide +kernel
theorem d_X12_over_101 : decode mX12_over.2.2.1 101 = .ok (.iconst 2, 1) := by decide +kernel
theorem d_X12_over_102 : decode mX12_over.2.2.1 102 = .ok (.aload_n 0, 1) := by decide +kernel
theorem d_X12_over_103 : decode mX12_over.2.2.1 103 = .ok (.iconst 2, 1) := by decide +kernel
theorem d_X12_over_104 : decode mX12_over.2.2.1 104 = .ok (.invokevirtual 683, 3) := by decide +kernel
theorem d_X12_over_107 : decode mX12_over.2.2.1 107 = .ok (.iload 7, 2) := by decide +kernel
theorem d_X12_over_109 : decode mX12_over.2.2.1 109 = .ok (.iadd, 1) := by decide +kernel
theorem d_X12_over_110 : decode mX12_over.2.2.1 110 = .ok (.iastore, 1) := by decide +kernel
theorem d_X12_over_111 : decode mX12_over.2.2.1 111 = .ok (.aload_n 0, 1) := by decide +kernel
theorem d_X12_over_112 : decode mX12_over.2.2.1 112 = .ok (.ldc2_w 686, 3) := by decide +kernel
theorem d_X12_over_115 : decode mX12_over.2.2.1 115 = .ok (.invokevirtual 637, 3) := by decide +kernel
theorem d_X12_over_118 : decode mX12_over.2.2.1 118 = .ok (.istore 8, 2) := by decide +kernel
theorem d_X12_over_120 : decode mX12_over.2.2.1 120 = .ok (.iload 4, 2) := by decide +kernel
theorem d_X12_over_122 : decode mX12_over.2.2.1 122 = .ok (.ifCond .eq 31, 3) := by decide +kernel
theorem d_X12_over_153 : decode mX12_over.2.2.1 153 = .ok (.iconst 1, 1) := by decide +kernel
theorem d_X12_over_154 : decode mX12_over.2.2.1 154 = .ok (.istore 4, 2) := by decide +kernel
theorem d_X12_over_156 : decode mX12_over.2.2.1 156 = .ok (.aload_n 0, 1) := by decide +kernel
theorem d_X12_over_157 : decode mX12_over.2.2.1 157 = .ok (.getfield 204, 3) := by decide +kernel
theorem d_X12_over_160 : decode mX12_over.2.2.1 160 = .ok (.lstore_n 2, 1) := by decide +kernel
theorem d_X12_over_161 : decode mX12_over.2.2.1 161 = .ok (.iconst 0, 1) := by decide +kernel
theorem d_X12_over_162 : decode mX12_over.2.2.1 162 = .ok (.istore 9, 2) := by decide +kernel
theorem d_X12_over_164 : decode mX12_over.2.2.1 164 = .ok (.iload 9, 2) := by decide +kernel
theorem d_X12_over_166 : decode mX12_over.2.2.1 166 = .ok (.iconst 3, 1) := by decide +kernel
theorem d_X12_over_167 : decode mX12_over.2.2.1 167 = .ok (.if_icmp .ge 23, 3) := by decide +kernel
theorem d_X12_over_170 : decode mX12_over.2.2.1 170 = .ok (.aload_n 0, 1) := by decide +kernel
theorem d_X12_over_171 : decode mX12_over.2.2.1 171 = .ok (.getfield 330, 3) := by decide +kernel
theorem d_X12_over_174 : decode mX12_over.2.2.1 174 = .ok (.iload 9, 2) := by decide +kernel
theorem d_X12_over_176 : decode mX12_over.2.2.1 176 = .ok (.aload_n 0, 1) := by decide +kernel
theorem d_X12_over_177 : decode mX12_over.2.2.1 177 = .ok (.getfield 171, 3) := by decide +kernel
theorem d_X12_over_180 : decode mX12_over.2.2.1 180 = .ok (.iload 9, 2) := by decide +kernel
theorem d_X12_over_182 : decode mX12_over.2.2.1 182 = .ok (.iaload, 1) := by decide +kernel
theorem d_X12_over_183 : decode mX12_over.2.2.1 183 = .ok (.iastore, 1) := by decide +kernel
theorem d_X12_over_184 : decode mX12_over.2.2.1 184 = .ok (.iinc 9 1, 3) := by decide +kernel
theorem d_X12_over_187 : decode mX12_over.2.2.1 187 = .ok (.goto (-23), 3) := by decide +kernel
theorem d_X12_over_190 : decode mX12_over.2.2.1 190 = .ok (.iinc 7 1, 3) := by decide +kernel
theorem d_X12_over_193 : decode mX12_over.2.2.1 193 = .ok (.goto (-134), 3) := by decide +kernel
theorem d_X12_over_125 : decode mX12_over.2.2.1 125 = .ok (.iload_n 1, 1) := by decide +kernel
theorem d_X12_over_126 : decode mX12_over.2.2.1 126 = .ok (.ifCond .eq 15, 3) := by decide +kernel
theorem d_X12_over_141 : decode mX12_over.2.2.1 141 = .ok (.aload_n 0, 1) := by decide +kernel
theorem d_X12_over_142 : decode mX12_over.2.2.1 142 = .ok (.getfield 204, 3) := by decide +kernel
theorem d_X12_over_145 : decode mX12_over.2.2.1 145 = .ok (.lload_n 2, 1) := by decide +kernel
theorem d_X12_over_146 : decode mX12_over.2.2.1 146 = .ok (.lcmp, 1) := by decide +kernel
theorem d_X12_over_147 : decode mX12_over.2.2.1 147 = .ok (.ifCond .lt 6, 3) := by decide +kernel
theorem d_X12_over_150 : decode mX12_over.2.2.1 150 = .ok (.goto 40, 3) := by decide +kernel
theorem d_X12_over_129 : decode mX12_over.2.2.1 129 = .ok (.aload_n 0, 1) := by decide +kernel
theorem d_X12_over_130 : decode mX12_over.2.2.1 130 = .ok (.getfield 204, 3) := by decide +kernel
theorem d_X12_over_133 : decode mX12_over.2.2.1 133 = .ok (.lload_n 2, 1) := by decide +kernel
theorem d_X12_over_134 : decode mX12_over.2.2.1 134 = .ok (.lcmp, 1) := by decide +kernel
theorem d_X12_over_135 : decode mX12_over.2.2.1 135 = .ok (.ifCond .gt 18, 3) := by decide +kernel
theorem d_X12_over_138 : decode mX12_over.2.2.1 138 = .ok (.goto 52, 3) := by decide +kernel
def mX12_run : MD := (12, yX12_run, cX12_run, 4, some .int)
theorem d_X12_run_0 : decode mX12_run.2.2.1 0 = .ok (.iload_n 1, 1) := by decide +kernel
theorem d_X12_run_1 : decode mX12_run.2.2.1 1 = .ok (.iconst (-1), 1) := by decide +kernel
theorem d_X12_run_2 : decode mX12_run.2.2.1 2 = .ok (.if_icmp .ge 6, 3) := by decide +kernel
theorem d_X12_run_8 : decode mX12_run.2.2.1 8 = .ok (.iconst 0, 1) := by decide +kernel
theorem d_X12_run_9 : decode mX12_run.2.2.1 9 = .ok (.istore_n 2, 1) := by decide +kernel
theorem d_X12_run_5 : decode mX12_run.2.2.1 5 = .ok (.bipush (-2), 2) := by decide +kernel
theorem d_X12_run_7 : decode mX12_run.2.2.1 7 = .ok (.ireturn, 1) := by decide +kernel
theorem d_X12_run_10 : decode mX12_run.2.2.1 10 = .ok (.iload_n 2, 1) := by decide +kernel
theorem d_X12_run_11 : decode mX12_run.2.2.1 11 = .ok (.iconst 3, 1) := by decide +kernel
theorem d_X12_run_12 : decode mX12_run.2.2.1 12 = .ok (.if_icmp .ge 21, 3) := by decide +kernel
theorem d_X12_run_15 : decode mX12_run.2.2.1 15 = .ok (.aload_n 0, 1) := by decide +kernel
theorem d_X12_run_16 : decode mX12_run.2.2.1 16 = .ok (.getfield 171, 3) := by decide +kernel
theorem d_X12_run_19 : decode mX12_run.2.2.1 19 = .ok (.iload_n 2, 1) := by decide +kernel
theorem d_X12_run_20 : decode mX12_run.2.2.1 20 = .ok (.aload_n 0, 1) := by decide +kernel
theorem d_X12_run_21 : decode mX12_run.2.2.1 21 = .ok (.getfield 168, 3) := by decide +kernel
theorem d_X12_run_24 : decode mX12_run.2.2.1 24 = .ok (.iload_n 2, 1) := by decide +kernel
theorem d_X12_run_25 : decode mX12_run.2.2.1 25 = .ok (.iaload, 1) := by decide +kernel
theorem d_X12_run_26 : decode mX12_run.2.2.1 26 = .ok (.iastore, 1) := by decide +kernel
theorem d_X12_run_27 : decode mX12_run.2.2.1 27 = .ok (.iinc 2 1, 3) := by decide +kernel
theorem d_X12_run_30 : decode mX12_run.2.2.1 30 = .ok (.goto (-20), 3) := by decide +kernel
theorem d_X12_run_33 : decode mX12_run.2.2.1 33 = .ok (.aload_n 0, 1) := by decide +kernel
theorem d_X12_run_34 : decode mX12_run.2.2.1 34 = .ok (.iconst 1, 1) := by decide +kernel
theorem d_X12_run_35 : decode mX12_run.2.2.1 35 = .ok (.putfield 225, 3) := by decide +kernel
theorem d_X12_run_38 : decode mX12_run.2.2.1 38 = .ok (.aload_n 0, 1) := by decide +kernel
theorem d_X12_run_39 : decode mX12_run.2.2.1 39 = .ok (.iload_n 1, 1) := by decide +kernel
theorem d_X12_run_40 : decode mX12_run.2.2.1 40 = .ok (.i2l, 1) := by decide +kernel
theorem d_X12_run_41 : decode mX12_run.2.2.1 41 = .ok (.invokevirtual 637, 3) := by decide +kernel
theorem d_X12_run_44 : decode mX12_run.2.2.1 44 = .ok (.istore_n 2, 1) := by decide +kernel
theorem d_X12_run_45 : decode mX12_run.2.2.1 45 = .ok (.aload_n 0, 1) := by decide +kernel
theorem d_X12_run_46 : decode mX12_run.2.2.1 46 = .ok (.iconst 0, 1) := by decide +kernel
theorem d_X12_run_47 : decode mX12_run.2.2.1 47 = .ok (.putfield 225, 3) := by decide +kernel
theorem d_X12_run_50 : decode mX12_run.2.2.1 50 = .ok (.aload_n 0, 1) := by decide +kernel
theorem d_X12_run_51 : decode mX12_run.2.2.1 51 = .ok (.iconst 1, 1) := by decide +kernel
theorem d_X12_run_52 : decode mX12_run.2.2.1 52 = .ok (.putfield 270, 3) := by decide +kernel
theorem d_X12_run_55 : decode mX12_run.2.2.1 55 = .ok (.aload_n 0, 1) := by decide +kernel
theorem d_X12_run_56 : decode mX12_run.2.2.1 56 = .ok (.aload_n 0, 1) := by decide +kernel
theorem d_X12_run_57 : decode mX12_run.2.2.1 57 = .ok (.getfield 201, 3) := by decide +kernel
theorem d_X12_run_60 : decode mX12_run.2.2.1 60 = .ok (.putfield 273, 3) := by decide +kernel
theorem d_X12_run_63 : decode mX12_run.2.2.1 63 = .ok (.aload_n 0, 1) := by decide +kernel
theorem d_X12_run_64 : decode mX12_run.2.2.1 64 = .ok (.aload_n 0, 1) := by decide +kernel
theorem d_X12_run_65 : decode mX12_run.2.2.1 65 = .ok (.getfield 204, 3) := by decide +kernel
theorem d_X12_run_68 : decode mX12_run.2.2.1 68 = .ok (.putfield 276, 3) := by decide +kernel
theorem d_X12_run_71 : decode mX12_run.2.2.1 71 = .ok (.aload_n 0, 1) := by decide +kernel
theorem d_X12_run_72 : decode mX12_run.2.2.1 72 = .ok (.aload_n 0, 1) := by decide +kernel
theorem d_X12_run_73 : decode mX12_run.2.2.1 73 = .ok (.getfield 210, 3) := by decide +kernel
theorem d_X12_run_76 : decode mX12_run.2.2.1 76 = .ok (.putfield 279, 3) := by decide +kernel
theorem d_X12_run_79 : decode mX12_run.2.2.1 79 = .ok (.aload_n 0, 1) := by decide +kernel
theorem d_X12_run_80 : decode mX12_run.2.2.1 80 = .ok (.aload_n 0, 1) := by decide +kernel
theorem d_X12_run_81 : decode mX12_run.2.2.1 81 = .ok (.getfield 213, 3) := by decide +kernel
theorem d_X12_run_84 : decode mX12_run.2.2.1 84 = .ok (.putfield 282, 3) := by decide +kernel
theorem d_X12_run_87 : decode mX12_run.2.2.1 87 = .ok (.aload_n 0, 1) := by decide +kernel
theorem d_X12_run_88 : decode mX12_run.2.2.1 88 = .ok (.aload_n 0, 1) := by decide +kernel
theorem d_X12_run_89 : decode mX12_run.2.2.1 89 = .ok (.getfield 216, 3) := by decide +kernel
theorem d_X12_run_92 : decode mX12_run.2.2.1 92 = .ok (.putfield 285, 3) := by decide +kernel
theorem d_X12_run_95 : decode mX12_run.2.2.1 95 = .ok (.aload_n 0, 1) := by decide +kernel
theorem d_X12_run_96 : decode mX12_run.2.2.1 96 = .ok (.aload_n 0, 1) := by decide +kernel
theorem d_X12_run_97 : decode mX12_run.2.2.1 97 = .ok (.getfield 267, 3) := by decide +kernel
theorem d_X12_run_100 : decode mX12_run.2.2.1 100 = .ok (.putfield 288, 3) := by decide +kernel
theorem d_X12_run_103 : decode mX12_run.2.2.1 103 = .ok (.aload_n 0, 1) := by decide +kernel
theorem d_X12_run_104 : decode mX12_run.2.2.1 104 = .ok (.aload_n 0, 1) := by decide +kernel
theorem d_X12_run_105 : decode mX12_run.2.2.1 105 = .ok (.getfield 240, 3) := by decide +kernel
theorem d_X12_run_108 : decode mX12_run.2.2.1 108 = .ok (.putfield 300, 3) := by decide +kernel
theorem d_X12_run_111 : decode mX12_run.2.2.1 111 = .ok (.aload_n 0, 1) := by decide +kernel
theorem d_X12_run_112 : decode mX12_run.2.2.1 112 = .ok (.aload_n 0, 1) := by decide +kernel
theorem d_X12_run_113 : decode mX12_run.2.2.1 113 = .ok (.getfield 252, 3) := by decide +kernel
theorem d_X12_run_116 : decode mX12_run.2.2.1 116 = .ok (.putfield 303, 3) := by decide +kernel
theorem d_X12_run_119 : decode mX12_run.2.2.1 119 = .ok (.iconst 0, 1) := by decide +kernel
theorem d_X12_run_120 : decode mX12_run.2.2.1 120 = .ok (.istore_n 3, 1) := by decide +kernel
theorem d_X12_run_121 : decode mX12_run.2.2.1 121 = .ok (.iload_n 3, 1) := by decide +kernel
theorem d_X12_run_122 : decode mX12_run.2.2.1 122 = .ok (.bipush 6, 2) := by decide +kernel
theorem d_X12_run_124 : decode mX12_run.2.2.1 124 = .ok (.if_icmp .ge 21, 3) := by decide +kernel
theorem d_X12_run_127 : decode mX12_run.2.2.1 127 = .ok (.aload_n 0, 1) := by decide +kernel
theorem d_X12_run_128 : decode mX12_run.2.2.1 128 = .ok (.getfield 291, 3) := by decide +kernel
theorem d_X12_run_131 : decode mX12_run.2.2.1 131 = .ok (.iload_n 3, 1) := by decide +kernel
theorem d_X12_run_132 : decode mX12_run.2.2.1 132 = .ok (.aload_n 0, 1) := by decide +kernel
theorem d_X12_run_133 : decode mX12_run.2.2.1 133 = .ok (.getfield 174, 3) := by decide +kernel
theorem d_X12_run_136 : decode mX12_run.2.2.1 136 = .ok (.iload_n 3, 1) := by decide +kernel
theorem d_X12_run_137 : decode mX12_run.2.2.1 137 = .ok (.iaload, 1) := by decide +kernel
theorem d_X12_run_138 : decode mX12_run.2.2.1 138 = .ok (.iastore, 1) := by decide +kernel
theorem d_X12_run_139 : decode mX12_run.2.2.1 139 = .ok (.iinc 3 1, 3) := by decide +kernel
theorem d_X12_run_142 : decode mX12_run.2.2.1 142 = .ok (.goto (-21), 3) := by decide +kernel
theorem d_X12_run_145 : decode mX12_run.2.2.1 145 = .ok (.iconst 0, 1) := by decide +kernel
theorem d_X12_run_146 : decode mX12_run.2.2.1 146 = .ok (.istore_n 3, 1) := by decide +kernel
theorem d_X12_run_147 : decode mX12_run.2.2.1 147 = .ok (.iload_n 3, 1) := by decide +kernel
theorem d_X12_run_148 : decode mX12_run.2.2.1 148 = .ok (.bipush 24, 2) := by decide +kernel
theorem d_X12_run_150 : decode mX12_run.2.2.1 150 = .ok (.if_icmp .ge 21, 3) := by decide +kernel
theorem d_X12_run_153 : decode mX12_run.2.2.1 153 = .ok (.aload_n 0, 1) := by decide +kernel
theorem d_X12_run_154 : decode mX12_run.2.2.1 154 = .ok (.getfield 294, 3) := by decide +kernel
theorem d_X12_run_157 : decode mX12_run.2.2.1 157 = .ok (.iload_n 3, 1) := by decide +kernel
theorem d_X12_run_158 : decode mX12_run.2.2.1 158 = .ok (.aload_n 0, 1) := by decide +kernel
theorem d_X12_run_159 : decode mX12_run.2.2.1 159 = .ok (.getfield 222, 3) := by decide +kernel
theorem d_X12_run_162 : decode mX12_run.2.2.1 162 = .ok (.iload_n 3, 1) := by decide +kernel
theorem d_X12_run_163 : decode mX12_run.2.2.1 163 = .ok (.iaload, 1) := by decide +kernel
theorem d_X12_run_164 : decode mX12_run.2.2.1 164 = .ok (.iastore, 1) := by decide +kernel
theorem d_X12_run_165 : decode mX12_run.2.2.1 165 = .ok (.iinc 3 1, 3) := by decide +kernel
theorem d_X12_run_168 : decode mX12_run.2.2.1 168 = .ok (.goto (-21), 3) := by decide +kernel
theorem d_X12_run_171 : decode mX12_run.2.2.1 171 = .ok (.iconst 0, 1) := by decide +kernel
theorem d_X12_run_172 : decode mX12_run.2.2.1 172 = .ok (.istore_n 3, 1) := by decide +kernel
theorem d_X12_run_173 : decode mX12_run.2.2.1 173 = .ok (.iload_n 3, 1) := by decide +kernel
theorem d_X12_run_174 : decode mX12_run.2.2.1 174 = .ok (.bipush 6, 2) := by decide +kernel
theorem d_X12_run_176 : decode mX12_run.2.2.1 176 = .ok (.if_icmp .ge 46, 3) := by decide +kernel
theorem d_X12_run_179 : decode mX12_run.2.2.1 179 = .ok (.aload_n 0, 1) := by decide +kernel
theorem d_X12_run_180 : decode mX12_run.2.2.1 180 = .ok (.getfield 297, 3) := by decide +kernel
theorem d_X12_run_183 : decode mX12_run.2.2.1 183 = .ok (.iload_n 3, 1) := by decide +kernel
