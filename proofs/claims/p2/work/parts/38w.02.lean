theorem d_X12_never_238 : decode mX12_never.2.2.1 238 = .ok (.lor, 1) := by decide +kernel
theorem d_X12_never_239 : decode mX12_never.2.2.1 239 = .ok (.lastore, 1) := by decide +kernel
theorem d_X12_never_240 : decode mX12_never.2.2.1 240 = .ok (.aload_n 0, 1) := by decide +kernel
theorem d_X12_never_241 : decode mX12_never.2.2.1 241 = .ok (.getfield 375, 3) := by decide +kernel
theorem d_X12_never_244 : decode mX12_never.2.2.1 244 = .ok (.iload 8, 2) := by decide +kernel
theorem d_X12_never_246 : decode mX12_never.2.2.1 246 = .ok (.dup2, 1) := by decide +kernel
theorem d_X12_never_247 : decode mX12_never.2.2.1 247 = .ok (.laload, 1) := by decide +kernel
theorem d_X12_never_248 : decode mX12_never.2.2.1 248 = .ok (.lload 5, 2) := by decide +kernel
theorem d_X12_never_250 : decode mX12_never.2.2.1 250 = .ok (.lor, 1) := by decide +kernel
theorem d_X12_never_251 : decode mX12_never.2.2.1 251 = .ok (.lastore, 1) := by decide +kernel
theorem d_X12_never_252 : decode mX12_never.2.2.1 252 = .ok (.iinc 3 1, 3) := by decide +kernel
theorem d_X12_never_255 : decode mX12_never.2.2.1 255 = .ok (.goto (-207), 3) := by decide +kernel
def mX12_byTurns : MD := (12, yX12_byTurns, cX12_byTurns, 14, some .long)
theorem d_X12_byTurns_0 : decode mX12_byTurns.2.2.1 0 = .ok (.aload_n 0, 1) := by decide +kernel
theorem d_X12_byTurns_1 : decode mX12_byTurns.2.2.1 1 = .ok (.getfield 270, 3) := by decide +kernel
theorem d_X12_byTurns_4 : decode mX12_byTurns.2.2.1 4 = .ok (.ifCond .eq 32, 3) := by decide +kernel
theorem d_X12_byTurns_36 : decode mX12_byTurns.2.2.1 36 = .ok (.ldc2_w 669, 3) := by decide +kernel
theorem kl_12_669 : Jvm.Cond.constantLong (e_cn 12) 669 (Int64.ofInt (-1000000000000000)) ∈ tblG := tblG_in (inT9 (List.mem_of_getElem? (i := 197) rfl)) rfl
theorem d_X12_byTurns_39 : decode mX12_byTurns.2.2.1 39 = .ok (.lreturn, 1) := by decide +kernel
theorem d_X12_byTurns_7 : decode mX12_byTurns.2.2.1 7 = .ok (.aload_n 0, 1) := by decide +kernel
theorem d_X12_byTurns_8 : decode mX12_byTurns.2.2.1 8 = .ok (.iload_n 1, 1) := by decide +kernel
theorem d_X12_byTurns_9 : decode mX12_byTurns.2.2.1 9 = .ok (.invokevirtual 555, 3) := by decide +kernel
theorem d_X12_byTurns_12 : decode mX12_byTurns.2.2.1 12 = .ok (.ifCond .eq 24, 3) := by decide +kernel
theorem d_X12_byTurns_15 : decode mX12_byTurns.2.2.1 15 = .ok (.iload_n 2, 1) := by decide +kernel
theorem d_X12_byTurns_16 : decode mX12_byTurns.2.2.1 16 = .ok (.ifCond .lt 20, 3) := by decide +kernel
theorem d_X12_byTurns_19 : decode mX12_byTurns.2.2.1 19 = .ok (.aload_n 0, 1) := by decide +kernel
theorem d_X12_byTurns_20 : decode mX12_byTurns.2.2.1 20 = .ok (.iload_n 3, 1) := by decide +kernel
theorem d_X12_byTurns_21 : decode mX12_byTurns.2.2.1 21 = .ok (.invokevirtual 656, 3) := by decide +kernel
theorem d_X12_byTurns_24 : decode mX12_byTurns.2.2.1 24 = .ok (.ifCond .eq 12, 3) := by decide +kernel
theorem d_X12_byTurns_27 : decode mX12_byTurns.2.2.1 27 = .ok (.aload_n 0, 1) := by decide +kernel
theorem d_X12_byTurns_28 : decode mX12_byTurns.2.2.1 28 = .ok (.iload_n 1, 1) := by decide +kernel
theorem d_X12_byTurns_29 : decode mX12_byTurns.2.2.1 29 = .ok (.iload_n 2, 1) := by decide +kernel
theorem d_X12_byTurns_30 : decode mX12_byTurns.2.2.1 30 = .ok (.invokevirtual 644, 3) := by decide +kernel
theorem d_X12_byTurns_33 : decode mX12_byTurns.2.2.1 33 = .ok (.ifCond .ne 7, 3) := by decide +kernel
theorem d_X12_byTurns_40 : decode mX12_byTurns.2.2.1 40 = .ok (.aload_n 0, 1) := by decide +kernel
theorem d_X12_byTurns_41 : decode mX12_byTurns.2.2.1 41 = .ok (.iload_n 1, 1) := by decide +kernel
theorem d_X12_byTurns_42 : decode mX12_byTurns.2.2.1 42 = .ok (.invokevirtual 650, 3) := by decide +kernel
theorem d_X12_byTurns_45 : decode mX12_byTurns.2.2.1 45 = .ok (.lstore 5, 2) := by decide +kernel
theorem d_X12_byTurns_47 : decode mX12_byTurns.2.2.1 47 = .ok (.lload 5, 2) := by decide +kernel
theorem d_X12_byTurns_49 : decode mX12_byTurns.2.2.1 49 = .ok (.invokestatic 653, 3) := by decide +kernel
theorem d_X12_byTurns_52 : decode mX12_byTurns.2.2.1 52 = .ok (.bipush 8, 2) := by decide +kernel
theorem d_X12_byTurns_54 : decode mX12_byTurns.2.2.1 54 = .ok (.if_icmp .gt 14, 3) := by decide +kernel
theorem d_X12_byTurns_68 : decode mX12_byTurns.2.2.1 68 = .ok (.ldc2_w 669, 3) := by decide +kernel
theorem d_X12_byTurns_71 : decode mX12_byTurns.2.2.1 71 = .ok (.lreturn, 1) := by decide +kernel
theorem d_X12_byTurns_57 : decode mX12_byTurns.2.2.1 57 = .ok (.lload 5, 2) := by decide +kernel
theorem d_X12_byTurns_59 : decode mX12_byTurns.2.2.1 59 = .ok (.iload_n 3, 1) := by decide +kernel
theorem d_X12_byTurns_60 : decode mX12_byTurns.2.2.1 60 = .ok (.lshr, 1) := by decide +kernel
theorem d_X12_byTurns_61 : decode mX12_byTurns.2.2.1 61 = .ok (.lconst 1, 1) := by decide +kernel
theorem d_X12_byTurns_62 : decode mX12_byTurns.2.2.1 62 = .ok (.land, 1) := by decide +kernel
theorem d_X12_byTurns_63 : decode mX12_byTurns.2.2.1 63 = .ok (.lconst 0, 1) := by decide +kernel
theorem d_X12_byTurns_64 : decode mX12_byTurns.2.2.1 64 = .ok (.lcmp, 1) := by decide +kernel
theorem d_X12_byTurns_65 : decode mX12_byTurns.2.2.1 65 = .ok (.ifCond .ne 7, 3) := by decide +kernel
theorem d_X12_byTurns_72 : decode mX12_byTurns.2.2.1 72 = .ok (.aload_n 0, 1) := by decide +kernel
theorem d_X12_byTurns_73 : decode mX12_byTurns.2.2.1 73 = .ok (.iconst 0, 1) := by decide +kernel
theorem d_X12_byTurns_74 : decode mX12_byTurns.2.2.1 74 = .ok (.putfield 318, 3) := by decide +kernel
theorem d_X12_byTurns_77 : decode mX12_byTurns.2.2.1 77 = .ok (.iconst 0, 1) := by decide +kernel
theorem d_X12_byTurns_78 : decode mX12_byTurns.2.2.1 78 = .ok (.istore 7, 2) := by decide +kernel
theorem d_X12_byTurns_80 : decode mX12_byTurns.2.2.1 80 = .ok (.iconst 0, 1) := by decide +kernel
theorem d_X12_byTurns_81 : decode mX12_byTurns.2.2.1 81 = .ok (.istore 8, 2) := by decide +kernel
theorem d_X12_byTurns_83 : decode mX12_byTurns.2.2.1 83 = .ok (.iload 8, 2) := by decide +kernel
theorem d_X12_byTurns_85 : decode mX12_byTurns.2.2.1 85 = .ok (.aload_n 0, 1) := by decide +kernel
theorem d_X12_byTurns_86 : decode mX12_byTurns.2.2.1 86 = .ok (.getfield 72, 3) := by decide +kernel
theorem d_X12_byTurns_89 : decode mX12_byTurns.2.2.1 89 = .ok (.aload_n 0, 1) := by decide +kernel
theorem d_X12_byTurns_90 : decode mX12_byTurns.2.2.1 90 = .ok (.getfield 48, 3) := by decide +kernel
theorem d_X12_byTurns_93 : decode mX12_byTurns.2.2.1 93 = .ok (.iaload, 1) := by decide +kernel
theorem d_X12_byTurns_94 : decode mX12_byTurns.2.2.1 94 = .ok (.if_icmp .ge 57, 3) := by decide +kernel
theorem d_X12_byTurns_151 : decode mX12_byTurns.2.2.1 151 = .ok (.iconst 0, 1) := by decide +kernel
theorem d_X12_byTurns_152 : decode mX12_byTurns.2.2.1 152 = .ok (.istore 8, 2) := by decide +kernel
theorem d_X12_byTurns_97 : decode mX12_byTurns.2.2.1 97 = .ok (.lload 5, 2) := by decide +kernel
theorem d_X12_byTurns_99 : decode mX12_byTurns.2.2.1 99 = .ok (.iload 8, 2) := by decide +kernel
theorem d_X12_byTurns_101 : decode mX12_byTurns.2.2.1 101 = .ok (.lshr, 1) := by decide +kernel
theorem d_X12_byTurns_102 : decode mX12_byTurns.2.2.1 102 = .ok (.lconst 1, 1) := by decide +kernel
theorem d_X12_byTurns_103 : decode mX12_byTurns.2.2.1 103 = .ok (.land, 1) := by decide +kernel
theorem d_X12_byTurns_104 : decode mX12_byTurns.2.2.1 104 = .ok (.lconst 0, 1) := by decide +kernel
theorem d_X12_byTurns_105 : decode mX12_byTurns.2.2.1 105 = .ok (.lcmp, 1) := by decide +kernel
theorem d_X12_byTurns_106 : decode mX12_byTurns.2.2.1 106 = .ok (.ifCond .ne 6, 3) := by decide +kernel
theorem d_X12_byTurns_112 : decode mX12_byTurns.2.2.1 112 = .ok (.iload 8, 2) := by decide +kernel
theorem d_X12_byTurns_114 : decode mX12_byTurns.2.2.1 114 = .ok (.iload_n 3, 1) := by decide +kernel
theorem d_X12_byTurns_115 : decode mX12_byTurns.2.2.1 115 = .ok (.if_icmp .ne 9, 3) := by decide +kernel
theorem d_X12_byTurns_118 : decode mX12_byTurns.2.2.1 118 = .ok (.aload_n 0, 1) := by decide +kernel
theorem d_X12_byTurns_119 : decode mX12_byTurns.2.2.1 119 = .ok (.getfield 318, 3) := by decide +kernel
theorem d_X12_byTurns_122 : decode mX12_byTurns.2.2.1 122 = .ok (.istore 7, 2) := by decide +kernel
theorem d_X12_byTurns_109 : decode mX12_byTurns.2.2.1 109 = .ok (.goto 36, 3) := by decide +kernel
theorem d_X12_byTurns_154 : decode mX12_byTurns.2.2.1 154 = .ok (.iload 8, 2) := by decide +kernel
theorem d_X12_byTurns_156 : decode mX12_byTurns.2.2.1 156 = .ok (.iconst 1, 1) := by decide +kernel
theorem d_X12_byTurns_157 : decode mX12_byTurns.2.2.1 157 = .ok (.aload_n 0, 1) := by decide +kernel
theorem d_X12_byTurns_158 : decode mX12_byTurns.2.2.1 158 = .ok (.getfield 318, 3) := by decide +kernel
theorem d_X12_byTurns_161 : decode mX12_byTurns.2.2.1 161 = .ok (.ishl, 1) := by decide +kernel
theorem d_X12_byTurns_162 : decode mX12_byTurns.2.2.1 162 = .ok (.if_icmp .ge 23, 3) := by decide +kernel
theorem d_X12_byTurns_165 : decode mX12_byTurns.2.2.1 165 = .ok (.aload_n 0, 1) := by decide +kernel
theorem d_X12_byTurns_166 : decode mX12_byTurns.2.2.1 166 = .ok (.getfield 324, 3) := by decide +kernel
theorem d_X12_byTurns_169 : decode mX12_byTurns.2.2.1 169 = .ok (.iload 8, 2) := by decide +kernel
theorem d_X12_byTurns_171 : decode mX12_byTurns.2.2.1 171 = .ok (.aload_n 0, 1) := by decide +kernel
theorem d_X12_byTurns_172 : decode mX12_byTurns.2.2.1 172 = .ok (.iload_n 1, 1) := by decide +kernel
theorem d_X12_byTurns_173 : decode mX12_byTurns.2.2.1 173 = .ok (.iload 8, 2) := by decide +kernel
theorem d_X12_byTurns_175 : decode mX12_byTurns.2.2.1 175 = .ok (.invokevirtual 671, 3) := by decide +kernel
def mX12_costOf : MD := (12, yX12_costOf, cX12_costOf, 7, some .long)
theorem sel_X12_costOf : Cond.instanceMethod mX12_costOf.2.1 ∈ tblG ∧ Cond.selects mX12_costOf.2.1.cls mX12_costOf.2.1 mX12_costOf.2.1 ∈ tblG := ⟨tblG_in (inT9 (List.mem_of_getElem? (i := 200) rfl)) rfl, tblG_in (inP9 (q := (mX12_costOf.2.1, 121)) (List.mem_of_getElem? (i := 1) rfl)) rfl⟩
theorem s_12_671 : e_siteV 12 671 mX12_costOf 12 := ⟨tblG_in (inT9 (List.mem_of_getElem? (i := 198) rfl)) rfl, sel_X12_costOf.1, sel_X12_costOf.2, rfl⟩
theorem d_X12_costOf_0 : decode mX12_costOf.2.2.1 0 = .ok (.iconst 0, 1) := by decide +kernel
theorem d_X12_costOf_1 : decode mX12_costOf.2.2.1 1 = .ok (.istore_n 3, 1) := by decide +kernel
theorem d_X12_costOf_2 : decode mX12_costOf.2.2.1 2 = .ok (.aload_n 0, 1) := by decide +kernel
theorem d_X12_costOf_3 : decode mX12_costOf.2.2.1 3 = .ok (.getfield 306, 3) := by decide +kernel
theorem d_X12_costOf_6 : decode mX12_costOf.2.2.1 6 = .ok (.istore 4, 2) := by decide +kernel
theorem d_X12_costOf_8 : decode mX12_costOf.2.2.1 8 = .ok (.iload 4, 2) := by decide +kernel
theorem d_X12_costOf_10 : decode mX12_costOf.2.2.1 10 = .ok (.aload_n 0, 1) := by decide +kernel
theorem d_X12_costOf_11 : decode mX12_costOf.2.2.1 11 = .ok (.getfield 309, 3) := by decide +kernel
theorem d_X12_costOf_14 : decode mX12_costOf.2.2.1 14 = .ok (.if_icmp .ge 144, 3) := by decide +kernel
theorem d_X12_costOf_158 : decode mX12_costOf.2.2.1 158 = .ok (.iconst 0, 1) := by decide +kernel
theorem d_X12_costOf_159 : decode mX12_costOf.2.2.1 159 = .ok (.istore 4, 2) := by decide +kernel
theorem d_X12_costOf_17 : decode mX12_costOf.2.2.1 17 = .ok (.aload_n 0, 1) := by decide +kernel
theorem d_X12_costOf_18 : decode mX12_costOf.2.2.1 18 = .ok (.iload_n 1, 1) := by decide +kernel
theorem d_X12_costOf_19 : decode mX12_costOf.2.2.1 19 = .ok (.iload 4, 2) := by decide +kernel
theorem d_X12_costOf_21 : decode mX12_costOf.2.2.1 21 = .ok (.invokevirtual 641, 3) := by decide +kernel
theorem d_X12_costOf_24 : decode mX12_costOf.2.2.1 24 = .ok (.iconst 3, 1) := by decide +kernel
theorem d_X12_costOf_25 : decode mX12_costOf.2.2.1 25 = .ok (.if_icmp .ne 24, 3) := by decide +kernel
theorem d_X12_costOf_28 : decode mX12_costOf.2.2.1 28 = .ok (.aload_n 0, 1) := by decide +kernel
theorem d_X12_costOf_29 : decode mX12_costOf.2.2.1 29 = .ok (.aload_n 0, 1) := by decide +kernel
theorem d_X12_costOf_30 : decode mX12_costOf.2.2.1 30 = .ok (.getfield 234, 3) := by decide +kernel
theorem d_X12_costOf_33 : decode mX12_costOf.2.2.1 33 = .ok (.sipush 2100, 3) := by decide +kernel
theorem d_X12_costOf_36 : decode mX12_costOf.2.2.1 36 = .ok (.iload_n 1, 1) := by decide +kernel
theorem d_X12_costOf_37 : decode mX12_costOf.2.2.1 37 = .ok (.imul, 1) := by decide +kernel
theorem d_X12_costOf_38 : decode mX12_costOf.2.2.1 38 = .ok (.iload 4, 2) := by decide +kernel
theorem d_X12_costOf_40 : decode mX12_costOf.2.2.1 40 = .ok (.iadd, 1) := by decide +kernel
theorem d_X12_costOf_41 : decode mX12_costOf.2.2.1 41 = .ok (.iaload, 1) := by decide +kernel
theorem d_X12_costOf_42 : decode mX12_costOf.2.2.1 42 = .ok (.iload_n 2, 1) := by decide +kernel
theorem d_X12_costOf_43 : decode mX12_costOf.2.2.1 43 = .ok (.invokevirtual 662, 3) := by decide +kernel
def mX12_isAmong : MD := (12, yX12_isAmong, cX12_isAmong, 4, some .boolean)
theorem sel_X12_isAmong : Cond.instanceMethod mX12_isAmong.2.1 ∈ tblG ∧ Cond.selects mX12_isAmong.2.1.cls mX12_isAmong.2.1 mX12_isAmong.2.1 ∈ tblG := ⟨tblG_in (inT9 (List.mem_of_getElem? (i := 204) rfl)) rfl, tblG_in (inP9 (q := (mX12_isAmong.2.1, 121)) (List.mem_of_getElem? (i := 2) rfl)) rfl⟩
theorem s_12_662 : e_siteV 12 662 mX12_isAmong 12 := ⟨tblG_in (inT9 (List.mem_of_getElem? (i := 202) rfl)) rfl, sel_X12_isAmong.1, sel_X12_isAmong.2, rfl⟩
theorem d_X12_isAmong_0 : decode mX12_isAmong.2.2.1 0 = .ok (.iconst 0, 1) := by decide +kernel
theorem d_X12_isAmong_1 : decode mX12_isAmong.2.2.1 1 = .ok (.istore_n 3, 1) := by decide +kernel
theorem d_X12_isAmong_2 : decode mX12_isAmong.2.2.1 2 = .ok (.iload_n 3, 1) := by decide +kernel
theorem d_X12_isAmong_3 : decode mX12_isAmong.2.2.1 3 = .ok (.aload_n 0, 1) := by decide +kernel
theorem d_X12_isAmong_4 : decode mX12_isAmong.2.2.1 4 = .ok (.getfield 318, 3) := by decide +kernel
theorem d_X12_isAmong_7 : decode mX12_isAmong.2.2.1 7 = .ok (.if_icmp .ge 30, 3) := by decide +kernel
theorem d_X12_isAmong_37 : decode mX12_isAmong.2.2.1 37 = .ok (.iconst 0, 1) := by decide +kernel
theorem d_X12_isAmong_38 : decode mX12_isAmong.2.2.1 38 = .ok (.ireturn, 1) := by decide +kernel
theorem d_X12_isAmong_10 : decode mX12_isAmong.2.2.1 10 = .ok (.aload_n 0, 1) := by decide +kernel
theorem d_X12_isAmong_11 : decode mX12_isAmong.2.2.1 11 = .ok (.getfield 315, 3) := by decide +kernel
theorem d_X12_isAmong_14 : decode mX12_isAmong.2.2.1 14 = .ok (.iload_n 3, 1) := by decide +kernel
theorem d_X12_isAmong_15 : decode mX12_isAmong.2.2.1 15 = .ok (.iaload, 1) := by decide +kernel
theorem d_X12_isAmong_16 : decode mX12_isAmong.2.2.1 16 = .ok (.iload_n 1, 1) := by decide +kernel
theorem d_X12_isAmong_17 : decode mX12_isAmong.2.2.1 17 = .ok (.if_icmp .ne 14, 3) := by decide +kernel
theorem d_X12_isAmong_20 : decode mX12_isAmong.2.2.1 20 = .ok (.iload_n 2, 1) := by decide +kernel
theorem d_X12_isAmong_21 : decode mX12_isAmong.2.2.1 21 = .ok (.iload_n 3, 1) := by decide +kernel
theorem d_X12_isAmong_22 : decode mX12_isAmong.2.2.1 22 = .ok (.ishr, 1) := by decide +kernel
theorem d_X12_isAmong_23 : decode mX12_isAmong.2.2.1 23 = .ok (.iconst 1, 1) := by decide +kernel
theorem d_X12_isAmong_24 : decode mX12_isAmong.2.2.1 24 = .ok (.iand, 1) := by decide +kernel
theorem d_X12_isAmong_25 : decode mX12_isAmong.2.2.1 25 = .ok (.iconst 1, 1) := by decide +kernel
theorem d_X12_isAmong_26 : decode mX12_isAmong.2.2.1 26 = .ok (.if_icmp .ne 5, 3) := by decide +kernel
theorem d_X12_isAmong_29 : decode mX12_isAmong.2.2.1 29 = .ok (.iconst 1, 1) := by decide +kernel
theorem d_X12_isAmong_30 : decode mX12_isAmong.2.2.1 30 = .ok (.ireturn, 1) := by decide +kernel
theorem d_X12_isAmong_31 : decode mX12_isAmong.2.2.1 31 = .ok (.iinc 3 1, 3) := by decide +kernel
theorem d_X12_isAmong_34 : decode mX12_isAmong.2.2.1 34 = .ok (.goto (-32), 3) := by decide +kernel
theorem ok_X12_isAmong : e_m mX12_isAmong 2 := ⟨tblG_in (inT9 (List.mem_of_getElem? (i := 205) rfl)) rfl, plainFor_of_name (by decide), rfl, ini_12, by decide +kernel, by decide⟩
theorem d_X12_costOf_46 : decode mX12_costOf.2.2.1 46 = .ok (.ifCond .ne 41, 3) := by decide +kernel
theorem d_X12_costOf_161 : decode mX12_costOf.2.2.1 161 = .ok (.iload 4, 2) := by decide +kernel
theorem d_X12_costOf_163 : decode mX12_costOf.2.2.1 163 = .ok (.aload_n 0, 1) := by decide +kernel
theorem d_X12_costOf_164 : decode mX12_costOf.2.2.1 164 = .ok (.getfield 303, 3) := by decide +kernel
theorem d_X12_costOf_167 : decode mX12_costOf.2.2.1 167 = .ok (.if_icmp .ge 116, 3) := by decide +kernel
theorem d_X12_costOf_283 : decode mX12_costOf.2.2.1 283 = .ok (.aload_n 0, 1) := by decide +kernel
theorem d_X12_costOf_284 : decode mX12_costOf.2.2.1 284 = .ok (.iload_n 1, 1) := by decide +kernel
theorem d_X12_costOf_285 : decode mX12_costOf.2.2.1 285 = .ok (.aload_n 0, 1) := by decide +kernel
theorem d_X12_costOf_286 : decode mX12_costOf.2.2.1 286 = .ok (.getfield 306, 3) := by decide +kernel
theorem d_X12_costOf_289 : decode mX12_costOf.2.2.1 289 = .ok (.aload_n 0, 1) := by decide +kernel
theorem d_X12_costOf_290 : decode mX12_costOf.2.2.1 290 = .ok (.getfield 309, 3) := by decide +kernel
theorem d_X12_costOf_293 : decode mX12_costOf.2.2.1 293 = .ok (.invokevirtual 665, 3) := by decide +kernel
theorem d_X12_costOf_296 : decode mX12_costOf.2.2.1 296 = .ok (.lreturn, 1) := by decide +kernel
theorem d_X12_costOf_170 : decode mX12_costOf.2.2.1 170 = .ok (.aload_n 0, 1) := by decide +kernel
theorem d_X12_costOf_171 : decode mX12_costOf.2.2.1 171 = .ok (.getfield 255, 3) := by decide +kernel
theorem d_X12_costOf_174 : decode mX12_costOf.2.2.1 174 = .ok (.iload 4, 2) := by decide +kernel
theorem d_X12_costOf_176 : decode mX12_costOf.2.2.1 176 = .ok (.iaload, 1) := by decide +kernel
theorem d_X12_costOf_177 : decode mX12_costOf.2.2.1 177 = .ok (.iload_n 1, 1) := by decide +kernel
theorem d_X12_costOf_178 : decode mX12_costOf.2.2.1 178 = .ok (.if_icmp .ne 99, 3) := by decide +kernel
theorem d_X12_costOf_181 : decode mX12_costOf.2.2.1 181 = .ok (.aload_n 0, 1) := by decide +kernel
theorem d_X12_costOf_182 : decode mX12_costOf.2.2.1 182 = .ok (.getfield 261, 3) := by decide +kernel
theorem d_X12_costOf_185 : decode mX12_costOf.2.2.1 185 = .ok (.iload 4, 2) := by decide +kernel
theorem d_X12_costOf_187 : decode mX12_costOf.2.2.1 187 = .ok (.iaload, 1) := by decide +kernel
theorem d_X12_costOf_188 : decode mX12_costOf.2.2.1 188 = .ok (.aload_n 0, 1) := by decide +kernel
theorem d_X12_costOf_189 : decode mX12_costOf.2.2.1 189 = .ok (.getfield 306, 3) := by decide +kernel
theorem d_X12_costOf_192 : decode mX12_costOf.2.2.1 192 = .ok (.if_icmp .lt 85, 3) := by decide +kernel
theorem d_X12_costOf_195 : decode mX12_costOf.2.2.1 195 = .ok (.aload_n 0, 1) := by decide +kernel
theorem d_X12_costOf_196 : decode mX12_costOf.2.2.1 196 = .ok (.getfield 261, 3) := by decide +kernel
theorem d_X12_costOf_199 : decode mX12_costOf.2.2.1 199 = .ok (.iload 4, 2) := by decide +kernel
theorem d_X12_costOf_201 : decode mX12_costOf.2.2.1 201 = .ok (.iaload, 1) := by decide +kernel
theorem d_X12_costOf_202 : decode mX12_costOf.2.2.1 202 = .ok (.aload_n 0, 1) := by decide +kernel
theorem d_X12_costOf_203 : decode mX12_costOf.2.2.1 203 = .ok (.getfield 309, 3) := by decide +kernel
theorem d_X12_costOf_206 : decode mX12_costOf.2.2.1 206 = .ok (.if_icmp .ge 71, 3) := by decide +kernel
theorem d_X12_costOf_209 : decode mX12_costOf.2.2.1 209 = .ok (.aload_n 0, 1) := by decide +kernel
theorem d_X12_costOf_210 : decode mX12_costOf.2.2.1 210 = .ok (.aload_n 0, 1) := by decide +kernel
theorem d_X12_costOf_211 : decode mX12_costOf.2.2.1 211 = .ok (.getfield 258, 3) := by decide +kernel
theorem d_X12_costOf_214 : decode mX12_costOf.2.2.1 214 = .ok (.iload 4, 2) := by decide +kernel
theorem d_X12_costOf_216 : decode mX12_costOf.2.2.1 216 = .ok (.iaload, 1) := by decide +kernel
theorem d_X12_costOf_217 : decode mX12_costOf.2.2.1 217 = .ok (.iload_n 2, 1) := by decide +kernel
theorem d_X12_costOf_218 : decode mX12_costOf.2.2.1 218 = .ok (.invokevirtual 662, 3) := by decide +kernel
theorem d_X12_costOf_221 : decode mX12_costOf.2.2.1 221 = .ok (.ifCond .ne 6, 3) := by decide +kernel
theorem d_X12_costOf_227 : decode mX12_costOf.2.2.1 227 = .ok (.aload_n 0, 1) := by decide +kernel
theorem d_X12_costOf_228 : decode mX12_costOf.2.2.1 228 = .ok (.getfield 261, 3) := by decide +kernel
theorem d_X12_costOf_231 : decode mX12_costOf.2.2.1 231 = .ok (.iload 4, 2) := by decide +kernel
theorem d_X12_costOf_233 : decode mX12_costOf.2.2.1 233 = .ok (.iaload, 1) := by decide +kernel
theorem d_X12_costOf_234 : decode mX12_costOf.2.2.1 234 = .ok (.istore 5, 2) := by decide +kernel
theorem d_X12_costOf_224 : decode mX12_costOf.2.2.1 224 = .ok (.goto 53, 3) := by decide +kernel
theorem d_X12_costOf_236 : decode mX12_costOf.2.2.1 236 = .ok (.iload 5, 2) := by decide +kernel
theorem d_X12_costOf_238 : decode mX12_costOf.2.2.1 238 = .ok (.aload_n 0, 1) := by decide +kernel
theorem d_X12_costOf_239 : decode mX12_costOf.2.2.1 239 = .ok (.getfield 261, 3) := by decide +kernel
theorem d_X12_costOf_242 : decode mX12_costOf.2.2.1 242 = .ok (.iload 4, 2) := by decide +kernel
theorem d_X12_costOf_244 : decode mX12_costOf.2.2.1 244 = .ok (.iaload, 1) := by decide +kernel
theorem d_X12_costOf_245 : decode mX12_costOf.2.2.1 245 = .ok (.aload_n 0, 1) := by decide +kernel
theorem d_X12_costOf_246 : decode mX12_costOf.2.2.1 246 = .ok (.iload_n 1, 1) := by decide +kernel
theorem d_X12_costOf_247 : decode mX12_costOf.2.2.1 247 = .ok (.invokevirtual 591, 3) := by decide +kernel
theorem d_X12_costOf_250 : decode mX12_costOf.2.2.1 250 = .ok (.iadd, 1) := by decide +kernel
theorem d_X12_costOf_251 : decode mX12_costOf.2.2.1 251 = .ok (.if_icmp .ge 26, 3) := by decide +kernel
theorem d_X12_costOf_254 : decode mX12_costOf.2.2.1 254 = .ok (.iload 5, 2) := by decide +kernel
theorem d_X12_costOf_256 : decode mX12_costOf.2.2.1 256 = .ok (.aload_n 0, 1) := by decide +kernel
theorem d_X12_costOf_257 : decode mX12_costOf.2.2.1 257 = .ok (.getfield 309, 3) := by decide +kernel
theorem d_X12_costOf_260 : decode mX12_costOf.2.2.1 260 = .ok (.if_icmp .ge 17, 3) := by decide +kernel
theorem d_X12_costOf_263 : decode mX12_costOf.2.2.1 263 = .ok (.aload_n 0, 1) := by decide +kernel
theorem d_X12_costOf_264 : decode mX12_costOf.2.2.1 264 = .ok (.getfield 321, 3) := by decide +kernel
theorem d_X12_costOf_267 : decode mX12_costOf.2.2.1 267 = .ok (.iload 5, 2) := by decide +kernel
theorem d_X12_costOf_269 : decode mX12_costOf.2.2.1 269 = .ok (.iconst 1, 1) := by decide +kernel
theorem d_X12_costOf_270 : decode mX12_costOf.2.2.1 270 = .ok (.bastore, 1) := by decide +kernel
theorem d_X12_costOf_271 : decode mX12_costOf.2.2.1 271 = .ok (.iinc 5 1, 3) := by decide +kernel
theorem d_X12_costOf_274 : decode mX12_costOf.2.2.1 274 = .ok (.goto (-38), 3) := by decide +kernel
theorem d_X12_costOf_277 : decode mX12_costOf.2.2.1 277 = .ok (.iinc 4 1, 3) := by decide +kernel
theorem d_X12_costOf_280 : decode mX12_costOf.2.2.1 280 = .ok (.goto (-119), 3) := by decide +kernel
theorem d_X12_costOf_49 : decode mX12_costOf.2.2.1 49 = .ok (.aload_n 0, 1) := by decide +kernel
theorem d_X12_costOf_50 : decode mX12_costOf.2.2.1 50 = .ok (.getfield 237, 3) := by decide +kernel
theorem d_X12_costOf_53 : decode mX12_costOf.2.2.1 53 = .ok (.sipush 2100, 3) := by decide +kernel
theorem d_X12_costOf_56 : decode mX12_costOf.2.2.1 56 = .ok (.iload_n 1, 1) := by decide +kernel
