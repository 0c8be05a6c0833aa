theorem d_X12_sharesOf_86 : decode mX12_sharesOf.2.2.1 86 = .ok (.lconst 1, 1) := by decide +kernel
theorem d_X12_sharesOf_87 : decode mX12_sharesOf.2.2.1 87 = .ok (.lsub, 1) := by decide +kernel
theorem d_X12_sharesOf_88 : decode mX12_sharesOf.2.2.1 88 = .ok (.land, 1) := by decide +kernel
theorem d_X12_sharesOf_89 : decode mX12_sharesOf.2.2.1 89 = .ok (.invokestatic 653, 3) := by decide +kernel
theorem d_X12_sharesOf_92 : decode mX12_sharesOf.2.2.1 92 = .ok (.i2l, 1) := by decide +kernel
theorem d_X12_sharesOf_93 : decode mX12_sharesOf.2.2.1 93 = .ok (.lload 10, 2) := by decide +kernel
theorem d_X12_sharesOf_95 : decode mX12_sharesOf.2.2.1 95 = .ok (.iload 9, 2) := by decide +kernel
theorem d_X12_sharesOf_97 : decode mX12_sharesOf.2.2.1 97 = .ok (.i2l, 1) := by decide +kernel
theorem d_X12_sharesOf_98 : decode mX12_sharesOf.2.2.1 98 = .ok (.lrem, 1) := by decide +kernel
theorem d_X12_sharesOf_99 : decode mX12_sharesOf.2.2.1 99 = .ok (.lcmp, 1) := by decide +kernel
theorem d_X12_sharesOf_100 : decode mX12_sharesOf.2.2.1 100 = .ok (.ifCond .ge 7, 3) := by decide +kernel
theorem d_X12_sharesOf_107 : decode mX12_sharesOf.2.2.1 107 = .ok (.lconst 0, 1) := by decide +kernel
theorem d_X12_sharesOf_103 : decode mX12_sharesOf.2.2.1 103 = .ok (.lconst 1, 1) := by decide +kernel
theorem d_X12_sharesOf_104 : decode mX12_sharesOf.2.2.1 104 = .ok (.goto 4, 3) := by decide +kernel
theorem d_X12_sharesOf_48 : decode mX12_sharesOf.2.2.1 48 = .ok (.goto 63, 3) := by decide +kernel
theorem d_X12_sharesOf_27 : decode mX12_sharesOf.2.2.1 27 = .ok (.goto 84, 3) := by decide +kernel
theorem d_X12_sharesOf_108 : decode mX12_sharesOf.2.2.1 108 = .ok (.ladd, 1) := by decide +kernel
theorem d_X12_sharesOf_109 : decode mX12_sharesOf.2.2.1 109 = .ok (.ladd, 1) := by decide +kernel
theorem d_X12_sharesOf_110 : decode mX12_sharesOf.2.2.1 110 = .ok (.lstore_n 3, 1) := by decide +kernel
theorem d_X12_sharesOf_111 : decode mX12_sharesOf.2.2.1 111 = .ok (.iinc 6 1, 3) := by decide +kernel
theorem d_X12_sharesOf_114 : decode mX12_sharesOf.2.2.1 114 = .ok (.goto (-106), 3) := by decide +kernel
theorem d_X12_sharesOf_117 : decode mX12_sharesOf.2.2.1 117 = .ok (.lload_n 3, 1) := by decide +kernel
theorem d_X12_sharesOf_118 : decode mX12_sharesOf.2.2.1 118 = .ok (.lreturn, 1) := by decide +kernel
theorem ok_X12_sharesOf : e_m mX12_sharesOf 2 := ⟨tblG_in (inT9 (List.mem_of_getElem? (i := 185) rfl)) rfl, plainFor_of_name (by decide), rfl, ini_12, by decide +kernel, by decide⟩
theorem d_X12_pays_220 : decode mX12_pays.2.2.1 220 = .ok (.ladd, 1) := by decide +kernel
theorem d_X12_pays_221 : decode mX12_pays.2.2.1 221 = .ok (.lstore_n 3, 1) := by decide +kernel
theorem d_X12_pays_222 : decode mX12_pays.2.2.1 222 = .ok (.iinc 5 1, 3) := by decide +kernel
theorem d_X12_pays_225 : decode mX12_pays.2.2.1 225 = .ok (.goto (-37), 3) := by decide +kernel
theorem d_X12_pays_74 : decode mX12_pays.2.2.1 74 = .ok (.iconst 0, 1) := by decide +kernel
theorem d_X12_pays_75 : decode mX12_pays.2.2.1 75 = .ok (.istore 6, 2) := by decide +kernel
theorem d_X12_pays_77 : decode mX12_pays.2.2.1 77 = .ok (.iload 6, 2) := by decide +kernel
theorem d_X12_pays_79 : decode mX12_pays.2.2.1 79 = .ok (.aload_n 0, 1) := by decide +kernel
theorem d_X12_pays_80 : decode mX12_pays.2.2.1 80 = .ok (.getfield 63, 3) := by decide +kernel
theorem d_X12_pays_83 : decode mX12_pays.2.2.1 83 = .ok (.aload_n 0, 1) := by decide +kernel
theorem d_X12_pays_84 : decode mX12_pays.2.2.1 84 = .ok (.getfield 48, 3) := by decide +kernel
theorem d_X12_pays_87 : decode mX12_pays.2.2.1 87 = .ok (.iaload, 1) := by decide +kernel
theorem d_X12_pays_88 : decode mX12_pays.2.2.1 88 = .ok (.if_icmp .ge 91, 3) := by decide +kernel
theorem d_X12_pays_179 : decode mX12_pays.2.2.1 179 = .ok (.iinc 5 1, 3) := by decide +kernel
theorem d_X12_pays_182 : decode mX12_pays.2.2.1 182 = .ok (.goto (-146), 3) := by decide +kernel
theorem d_X12_pays_91 : decode mX12_pays.2.2.1 91 = .ok (.aload_n 0, 1) := by decide +kernel
theorem d_X12_pays_92 : decode mX12_pays.2.2.1 92 = .ok (.iload 6, 2) := by decide +kernel
theorem d_X12_pays_94 : decode mX12_pays.2.2.1 94 = .ok (.iload 5, 2) := by decide +kernel
theorem d_X12_pays_96 : decode mX12_pays.2.2.1 96 = .ok (.invokevirtual 641, 3) := by decide +kernel
theorem d_X12_pays_99 : decode mX12_pays.2.2.1 99 = .ok (.istore 7, 2) := by decide +kernel
theorem d_X12_pays_101 : decode mX12_pays.2.2.1 101 = .ok (.iload_n 1, 1) := by decide +kernel
theorem d_X12_pays_102 : decode mX12_pays.2.2.1 102 = .ok (.iconst (-1), 1) := by decide +kernel
theorem d_X12_pays_103 : decode mX12_pays.2.2.1 103 = .ok (.if_icmp .ne 25, 3) := by decide +kernel
theorem d_X12_pays_128 : decode mX12_pays.2.2.1 128 = .ok (.iload 7, 2) := by decide +kernel
theorem d_X12_pays_130 : decode mX12_pays.2.2.1 130 = .ok (.ifCond .eq 43, 3) := by decide +kernel
theorem d_X12_pays_133 : decode mX12_pays.2.2.1 133 = .ok (.iload 7, 2) := by decide +kernel
theorem d_X12_pays_135 : decode mX12_pays.2.2.1 135 = .ok (.iconst 2, 1) := by decide +kernel
theorem d_X12_pays_136 : decode mX12_pays.2.2.1 136 = .ok (.if_icmp .ne 7, 3) := by decide +kernel
theorem d_X12_pays_139 : decode mX12_pays.2.2.1 139 = .ok (.iload_n 2, 1) := by decide +kernel
theorem d_X12_pays_140 : decode mX12_pays.2.2.1 140 = .ok (.ifCond .ne 33, 3) := by decide +kernel
theorem d_X12_pays_106 : decode mX12_pays.2.2.1 106 = .ok (.lload_n 3, 1) := by decide +kernel
theorem d_X12_pays_107 : decode mX12_pays.2.2.1 107 = .ok (.iload 7, 2) := by decide +kernel
theorem d_X12_pays_109 : decode mX12_pays.2.2.1 109 = .ok (.ifCond .ne 13, 3) := by decide +kernel
theorem d_X12_pays_122 : decode mX12_pays.2.2.1 122 = .ok (.lconst 0, 1) := by decide +kernel
theorem d_X12_pays_112 : decode mX12_pays.2.2.1 112 = .ok (.aload_n 0, 1) := by decide +kernel
theorem d_X12_pays_113 : decode mX12_pays.2.2.1 113 = .ok (.iload 6, 2) := by decide +kernel
theorem d_X12_pays_115 : decode mX12_pays.2.2.1 115 = .ok (.invokevirtual 568, 3) := by decide +kernel
def mX12_sleeps : MD := (12, yX12_sleeps, cX12_sleeps, 2, some .int)
theorem sel_X12_sleeps : Cond.instanceMethod mX12_sleeps.2.1 ∈ tblG ∧ Cond.selects mX12_sleeps.2.1.cls mX12_sleeps.2.1 mX12_sleeps.2.1 ∈ tblG := ⟨tblG_in (inT9 (List.mem_of_getElem? (i := 68) rfl)) rfl, tblG_in (inP7 (q := (mX12_sleeps.2.1, 121)) (List.mem_of_getElem? (i := 14) rfl)) rfl⟩
theorem s_12_568 : e_siteV 12 568 mX12_sleeps 12 := ⟨tblG_in (inT9 (List.mem_of_getElem? (i := 66) rfl)) rfl, sel_X12_sleeps.1, sel_X12_sleeps.2, rfl⟩
theorem d_X12_sleeps_0 : decode mX12_sleeps.2.2.1 0 = .ok (.aload_n 0, 1) := by decide +kernel
theorem d_X12_sleeps_1 : decode mX12_sleeps.2.2.1 1 = .ok (.iload_n 1, 1) := by decide +kernel
theorem d_X12_sleeps_2 : decode mX12_sleeps.2.2.1 2 = .ok (.iconst 0, 1) := by decide +kernel
theorem d_X12_sleeps_3 : decode mX12_sleeps.2.2.1 3 = .ok (.invokevirtual 565, 3) := by decide +kernel
theorem d_X12_sleeps_6 : decode mX12_sleeps.2.2.1 6 = .ok (.ireturn, 1) := by decide +kernel
theorem ok_X12_sleeps : e_m mX12_sleeps 1 := ⟨tblG_in (inT9 (List.mem_of_getElem? (i := 69) rfl)) rfl, plainFor_of_name (by decide), rfl, ini_12, by decide +kernel, by decide⟩
theorem d_X12_pays_118 : decode mX12_pays.2.2.1 118 = .ok (.i2l, 1) := by decide +kernel
theorem d_X12_pays_119 : decode mX12_pays.2.2.1 119 = .ok (.goto 4, 3) := by decide +kernel
theorem d_X12_pays_143 : decode mX12_pays.2.2.1 143 = .ok (.aload_n 0, 1) := by decide +kernel
theorem d_X12_pays_144 : decode mX12_pays.2.2.1 144 = .ok (.getfield 234, 3) := by decide +kernel
theorem d_X12_pays_147 : decode mX12_pays.2.2.1 147 = .ok (.sipush 2100, 3) := by decide +kernel
theorem d_X12_pays_150 : decode mX12_pays.2.2.1 150 = .ok (.iload 6, 2) := by decide +kernel
theorem d_X12_pays_152 : decode mX12_pays.2.2.1 152 = .ok (.imul, 1) := by decide +kernel
theorem d_X12_pays_153 : decode mX12_pays.2.2.1 153 = .ok (.iload 5, 2) := by decide +kernel
theorem d_X12_pays_155 : decode mX12_pays.2.2.1 155 = .ok (.iadd, 1) := by decide +kernel
theorem d_X12_pays_156 : decode mX12_pays.2.2.1 156 = .ok (.iaload, 1) := by decide +kernel
theorem d_X12_pays_157 : decode mX12_pays.2.2.1 157 = .ok (.iload_n 1, 1) := by decide +kernel
theorem d_X12_pays_158 : decode mX12_pays.2.2.1 158 = .ok (.if_icmp .ne 15, 3) := by decide +kernel
theorem d_X12_pays_161 : decode mX12_pays.2.2.1 161 = .ok (.lload_n 3, 1) := by decide +kernel
theorem d_X12_pays_162 : decode mX12_pays.2.2.1 162 = .ok (.aload_n 0, 1) := by decide +kernel
theorem d_X12_pays_163 : decode mX12_pays.2.2.1 163 = .ok (.iload 6, 2) := by decide +kernel
theorem d_X12_pays_165 : decode mX12_pays.2.2.1 165 = .ok (.iload 7, 2) := by decide +kernel
theorem d_X12_pays_167 : decode mX12_pays.2.2.1 167 = .ok (.invokevirtual 574, 3) := by decide +kernel
def mX12_sips : MD := (12, yX12_sips, cX12_sips, 3, some .int)
theorem sel_X12_sips : Cond.instanceMethod mX12_sips.2.1 ∈ tblG ∧ Cond.selects mX12_sips.2.1.cls mX12_sips.2.1 mX12_sips.2.1 ∈ tblG := ⟨tblG_in (inT9 (List.mem_of_getElem? (i := 64) rfl)) rfl, tblG_in (inP7 (q := (mX12_sips.2.1, 121)) (List.mem_of_getElem? (i := 13) rfl)) rfl⟩
theorem s_12_574 : e_siteV 12 574 mX12_sips 12 := ⟨tblG_in (inT9 (List.mem_of_getElem? (i := 62) rfl)) rfl, sel_X12_sips.1, sel_X12_sips.2, rfl⟩
theorem d_X12_sips_0 : decode mX12_sips.2.2.1 0 = .ok (.iload_n 2, 1) := by decide +kernel
theorem d_X12_sips_1 : decode mX12_sips.2.2.1 1 = .ok (.ifCond .ne 11, 3) := by decide +kernel
theorem d_X12_sips_12 : decode mX12_sips.2.2.1 12 = .ok (.iload_n 2, 1) := by decide +kernel
theorem d_X12_sips_13 : decode mX12_sips.2.2.1 13 = .ok (.iconst 1, 1) := by decide +kernel
theorem d_X12_sips_14 : decode mX12_sips.2.2.1 14 = .ok (.if_icmp .ne 12, 3) := by decide +kernel
theorem d_X12_sips_26 : decode mX12_sips.2.2.1 26 = .ok (.iload_n 2, 1) := by decide +kernel
theorem d_X12_sips_27 : decode mX12_sips.2.2.1 27 = .ok (.iconst 2, 1) := by decide +kernel
theorem d_X12_sips_28 : decode mX12_sips.2.2.1 28 = .ok (.if_icmp .ne 12, 3) := by decide +kernel
theorem d_X12_sips_40 : decode mX12_sips.2.2.1 40 = .ok (.aload_n 0, 1) := by decide +kernel
theorem d_X12_sips_41 : decode mX12_sips.2.2.1 41 = .ok (.iload_n 1, 1) := by decide +kernel
theorem d_X12_sips_42 : decode mX12_sips.2.2.1 42 = .ok (.iconst 4, 1) := by decide +kernel
theorem d_X12_sips_43 : decode mX12_sips.2.2.1 43 = .ok (.invokevirtual 565, 3) := by decide +kernel
theorem d_X12_sips_46 : decode mX12_sips.2.2.1 46 = .ok (.ireturn, 1) := by decide +kernel
theorem d_X12_sips_31 : decode mX12_sips.2.2.1 31 = .ok (.aload_n 0, 1) := by decide +kernel
theorem d_X12_sips_32 : decode mX12_sips.2.2.1 32 = .ok (.iload_n 1, 1) := by decide +kernel
theorem d_X12_sips_33 : decode mX12_sips.2.2.1 33 = .ok (.iconst 3, 1) := by decide +kernel
theorem d_X12_sips_34 : decode mX12_sips.2.2.1 34 = .ok (.invokevirtual 565, 3) := by decide +kernel
theorem d_X12_sips_37 : decode mX12_sips.2.2.1 37 = .ok (.goto 9, 3) := by decide +kernel
theorem d_X12_sips_17 : decode mX12_sips.2.2.1 17 = .ok (.aload_n 0, 1) := by decide +kernel
theorem d_X12_sips_18 : decode mX12_sips.2.2.1 18 = .ok (.iload_n 1, 1) := by decide +kernel
theorem d_X12_sips_19 : decode mX12_sips.2.2.1 19 = .ok (.iconst 2, 1) := by decide +kernel
theorem d_X12_sips_20 : decode mX12_sips.2.2.1 20 = .ok (.invokevirtual 565, 3) := by decide +kernel
theorem d_X12_sips_23 : decode mX12_sips.2.2.1 23 = .ok (.goto 23, 3) := by decide +kernel
theorem d_X12_sips_4 : decode mX12_sips.2.2.1 4 = .ok (.aload_n 0, 1) := by decide +kernel
theorem d_X12_sips_5 : decode mX12_sips.2.2.1 5 = .ok (.iload_n 1, 1) := by decide +kernel
theorem d_X12_sips_6 : decode mX12_sips.2.2.1 6 = .ok (.invokevirtual 568, 3) := by decide +kernel
theorem d_X12_sips_9 : decode mX12_sips.2.2.1 9 = .ok (.goto 37, 3) := by decide +kernel
theorem ok_X12_sips : e_m mX12_sips 2 := ⟨tblG_in (inT9 (List.mem_of_getElem? (i := 65) rfl)) rfl, plainFor_of_name (by decide), rfl, ini_12, by decide +kernel, by decide⟩
theorem d_X12_pays_170 : decode mX12_pays.2.2.1 170 = .ok (.i2l, 1) := by decide +kernel
theorem d_X12_pays_171 : decode mX12_pays.2.2.1 171 = .ok (.ladd, 1) := by decide +kernel
theorem d_X12_pays_172 : decode mX12_pays.2.2.1 172 = .ok (.lstore_n 3, 1) := by decide +kernel
theorem d_X12_pays_123 : decode mX12_pays.2.2.1 123 = .ok (.ladd, 1) := by decide +kernel
theorem d_X12_pays_124 : decode mX12_pays.2.2.1 124 = .ok (.lstore_n 3, 1) := by decide +kernel
theorem d_X12_pays_125 : decode mX12_pays.2.2.1 125 = .ok (.goto 48, 3) := by decide +kernel
theorem d_X12_pays_173 : decode mX12_pays.2.2.1 173 = .ok (.iinc 6 1, 3) := by decide +kernel
theorem d_X12_pays_176 : decode mX12_pays.2.2.1 176 = .ok (.goto (-99), 3) := by decide +kernel
def mX12_stretches : MD := (12, yX12_stretches, cX12_stretches, 3, some .int)
theorem d_X12_stretches_0 : decode mX12_stretches.2.2.1 0 = .ok (.aload_n 0, 1) := by decide +kernel
theorem d_X12_stretches_1 : decode mX12_stretches.2.2.1 1 = .ok (.getfield 270, 3) := by decide +kernel
theorem d_X12_stretches_4 : decode mX12_stretches.2.2.1 4 = .ok (.ifCond .eq 11, 3) := by decide +kernel
theorem d_X12_stretches_15 : decode mX12_stretches.2.2.1 15 = .ok (.iconst (-1), 1) := by decide +kernel
theorem d_X12_stretches_16 : decode mX12_stretches.2.2.1 16 = .ok (.ireturn, 1) := by decide +kernel
theorem d_X12_stretches_7 : decode mX12_stretches.2.2.1 7 = .ok (.aload_n 0, 1) := by decide +kernel
theorem d_X12_stretches_8 : decode mX12_stretches.2.2.1 8 = .ok (.iload_n 1, 1) := by decide +kernel
theorem d_X12_stretches_9 : decode mX12_stretches.2.2.1 9 = .ok (.invokevirtual 555, 3) := by decide +kernel
theorem d_X12_stretches_12 : decode mX12_stretches.2.2.1 12 = .ok (.ifCond .ne 5, 3) := by decide +kernel
theorem d_X12_stretches_17 : decode mX12_stretches.2.2.1 17 = .ok (.aload_n 0, 1) := by decide +kernel
theorem d_X12_stretches_18 : decode mX12_stretches.2.2.1 18 = .ok (.iload_n 1, 1) := by decide +kernel
theorem d_X12_stretches_19 : decode mX12_stretches.2.2.1 19 = .ok (.iconst (-1), 1) := by decide +kernel
theorem d_X12_stretches_20 : decode mX12_stretches.2.2.1 20 = .ok (.invokevirtual 644, 3) := by decide +kernel
theorem d_X12_stretches_23 : decode mX12_stretches.2.2.1 23 = .ok (.istore_n 2, 1) := by decide +kernel
theorem d_X12_stretches_24 : decode mX12_stretches.2.2.1 24 = .ok (.iload_n 2, 1) := by decide +kernel
theorem d_X12_stretches_25 : decode mX12_stretches.2.2.1 25 = .ok (.ifCond .eq 7, 3) := by decide +kernel
theorem d_X12_stretches_32 : decode mX12_stretches.2.2.1 32 = .ok (.aload_n 0, 1) := by decide +kernel
theorem d_X12_stretches_33 : decode mX12_stretches.2.2.1 33 = .ok (.getfield 312, 3) := by decide +kernel
theorem d_X12_stretches_36 : decode mX12_stretches.2.2.1 36 = .ok (.ireturn, 1) := by decide +kernel
theorem d_X12_stretches_28 : decode mX12_stretches.2.2.1 28 = .ok (.iconst (-1), 1) := by decide +kernel
theorem d_X12_stretches_29 : decode mX12_stretches.2.2.1 29 = .ok (.goto 7, 3) := by decide +kernel
def mX12_stretch : MD := (12, yX12_stretch, cX12_stretch, 4, some .int)
theorem d_X12_stretch_0 : decode mX12_stretch.2.2.1 0 = .ok (.aload_n 0, 1) := by decide +kernel
theorem d_X12_stretch_1 : decode mX12_stretch.2.2.1 1 = .ok (.getfield 270, 3) := by decide +kernel
theorem d_X12_stretch_4 : decode mX12_stretch.2.2.1 4 = .ok (.ifCond .eq 33, 3) := by decide +kernel
theorem d_X12_stretch_37 : decode mX12_stretch.2.2.1 37 = .ok (.iconst (-1), 1) := by decide +kernel
theorem d_X12_stretch_38 : decode mX12_stretch.2.2.1 38 = .ok (.ireturn, 1) := by decide +kernel
theorem d_X12_stretch_7 : decode mX12_stretch.2.2.1 7 = .ok (.aload_n 0, 1) := by decide +kernel
theorem d_X12_stretch_8 : decode mX12_stretch.2.2.1 8 = .ok (.iload_n 1, 1) := by decide +kernel
theorem d_X12_stretch_9 : decode mX12_stretch.2.2.1 9 = .ok (.invokevirtual 555, 3) := by decide +kernel
theorem d_X12_stretch_12 : decode mX12_stretch.2.2.1 12 = .ok (.ifCond .eq 25, 3) := by decide +kernel
theorem d_X12_stretch_15 : decode mX12_stretch.2.2.1 15 = .ok (.iload_n 2, 1) := by decide +kernel
theorem d_X12_stretch_16 : decode mX12_stretch.2.2.1 16 = .ok (.ifCond .lt 21, 3) := by decide +kernel
theorem d_X12_stretch_19 : decode mX12_stretch.2.2.1 19 = .ok (.iload_n 3, 1) := by decide +kernel
theorem d_X12_stretch_20 : decode mX12_stretch.2.2.1 20 = .ok (.iconst 0, 1) := by decide +kernel
theorem d_X12_stretch_21 : decode mX12_stretch.2.2.1 21 = .ok (.iconst 2, 1) := by decide +kernel
theorem d_X12_stretch_22 : decode mX12_stretch.2.2.1 22 = .ok (.invokestatic 467, 3) := by decide +kernel
theorem d_X12_stretch_25 : decode mX12_stretch.2.2.1 25 = .ok (.ifCond .eq 12, 3) := by decide +kernel
theorem d_X12_stretch_28 : decode mX12_stretch.2.2.1 28 = .ok (.aload_n 0, 1) := by decide +kernel
theorem d_X12_stretch_29 : decode mX12_stretch.2.2.1 29 = .ok (.iload_n 1, 1) := by decide +kernel
theorem d_X12_stretch_30 : decode mX12_stretch.2.2.1 30 = .ok (.iload_n 2, 1) := by decide +kernel
theorem d_X12_stretch_31 : decode mX12_stretch.2.2.1 31 = .ok (.invokevirtual 644, 3) := by decide +kernel
theorem d_X12_stretch_34 : decode mX12_stretch.2.2.1 34 = .ok (.ifCond .ne 5, 3) := by decide +kernel
theorem d_X12_stretch_39 : decode mX12_stretch.2.2.1 39 = .ok (.iload_n 3, 1) := by decide +kernel
theorem d_X12_stretch_40 : decode mX12_stretch.2.2.1 40 = .ok (.ifCond .ne 10, 3) := by decide +kernel
theorem d_X12_stretch_50 : decode mX12_stretch.2.2.1 50 = .ok (.iload_n 3, 1) := by decide +kernel
theorem d_X12_stretch_51 : decode mX12_stretch.2.2.1 51 = .ok (.iconst 1, 1) := by decide +kernel
theorem d_X12_stretch_52 : decode mX12_stretch.2.2.1 52 = .ok (.if_icmp .ne 10, 3) := by decide +kernel
theorem d_X12_stretch_62 : decode mX12_stretch.2.2.1 62 = .ok (.aload_n 0, 1) := by decide +kernel
theorem d_X12_stretch_63 : decode mX12_stretch.2.2.1 63 = .ok (.iload_n 1, 1) := by decide +kernel
theorem d_X12_stretch_64 : decode mX12_stretch.2.2.1 64 = .ok (.invokevirtual 647, 3) := by decide +kernel
theorem d_X12_stretch_67 : decode mX12_stretch.2.2.1 67 = .ok (.ireturn, 1) := by decide +kernel
theorem d_X12_stretch_55 : decode mX12_stretch.2.2.1 55 = .ok (.aload_n 0, 1) := by decide +kernel
theorem d_X12_stretch_56 : decode mX12_stretch.2.2.1 56 = .ok (.getfield 309, 3) := by decide +kernel
theorem d_X12_stretch_59 : decode mX12_stretch.2.2.1 59 = .ok (.goto 8, 3) := by decide +kernel
theorem d_X12_stretch_43 : decode mX12_stretch.2.2.1 43 = .ok (.aload_n 0, 1) := by decide +kernel
theorem d_X12_stretch_44 : decode mX12_stretch.2.2.1 44 = .ok (.getfield 306, 3) := by decide +kernel
theorem d_X12_stretch_47 : decode mX12_stretch.2.2.1 47 = .ok (.goto 20, 3) := by decide +kernel
def mX12_lines : MD := (12, yX12_lines, cX12_lines, 3, some .long)
theorem d_X12_lines_0 : decode mX12_lines.2.2.1 0 = .ok (.aload_n 0, 1) := by decide +kernel
theorem d_X12_lines_1 : decode mX12_lines.2.2.1 1 = .ok (.getfield 270, 3) := by decide +kernel
theorem d_X12_lines_4 : decode mX12_lines.2.2.1 4 = .ok (.ifCond .eq 24, 3) := by decide +kernel
theorem d_X12_lines_28 : decode mX12_lines.2.2.1 28 = .ok (.lconst 0, 1) := by decide +kernel
theorem d_X12_lines_29 : decode mX12_lines.2.2.1 29 = .ok (.goto 8, 3) := by decide +kernel
theorem d_X12_lines_37 : decode mX12_lines.2.2.1 37 = .ok (.lreturn, 1) := by decide +kernel
theorem d_X12_lines_7 : decode mX12_lines.2.2.1 7 = .ok (.aload_n 0, 1) := by decide +kernel
theorem d_X12_lines_8 : decode mX12_lines.2.2.1 8 = .ok (.iload_n 1, 1) := by decide +kernel
theorem d_X12_lines_9 : decode mX12_lines.2.2.1 9 = .ok (.invokevirtual 555, 3) := by decide +kernel
theorem d_X12_lines_12 : decode mX12_lines.2.2.1 12 = .ok (.ifCond .eq 16, 3) := by decide +kernel
theorem d_X12_lines_15 : decode mX12_lines.2.2.1 15 = .ok (.iload_n 2, 1) := by decide +kernel
theorem d_X12_lines_16 : decode mX12_lines.2.2.1 16 = .ok (.ifCond .lt 12, 3) := by decide +kernel
theorem d_X12_lines_19 : decode mX12_lines.2.2.1 19 = .ok (.aload_n 0, 1) := by decide +kernel
theorem d_X12_lines_20 : decode mX12_lines.2.2.1 20 = .ok (.iload_n 1, 1) := by decide +kernel
theorem d_X12_lines_21 : decode mX12_lines.2.2.1 21 = .ok (.iload_n 2, 1) := by decide +kernel
theorem d_X12_lines_22 : decode mX12_lines.2.2.1 22 = .ok (.invokevirtual 644, 3) := by decide +kernel
theorem d_X12_lines_25 : decode mX12_lines.2.2.1 25 = .ok (.ifCond .ne 7, 3) := by decide +kernel
theorem d_X12_lines_32 : decode mX12_lines.2.2.1 32 = .ok (.aload_n 0, 1) := by decide +kernel
theorem d_X12_lines_33 : decode mX12_lines.2.2.1 33 = .ok (.iload_n 1, 1) := by decide +kernel
theorem d_X12_lines_34 : decode mX12_lines.2.2.1 34 = .ok (.invokevirtual 650, 3) := by decide +kernel
def mX12_wasted : MD := (12, yX12_wasted, cX12_wasted, 8, some .int)
theorem d_X12_wasted_0 : decode mX12_wasted.2.2.1 0 = .ok (.aload_n 0, 1) := by decide +kernel
theorem d_X12_wasted_1 : decode mX12_wasted.2.2.1 1 = .ok (.getfield 270, 3) := by decide +kernel
theorem d_X12_wasted_4 : decode mX12_wasted.2.2.1 4 = .ok (.ifCond .eq 11, 3) := by decide +kernel
theorem d_X12_wasted_15 : decode mX12_wasted.2.2.1 15 = .ok (.iconst (-1), 1) := by decide +kernel
theorem d_X12_wasted_16 : decode mX12_wasted.2.2.1 16 = .ok (.ireturn, 1) := by decide +kernel
theorem d_X12_wasted_7 : decode mX12_wasted.2.2.1 7 = .ok (.aload_n 0, 1) := by decide +kernel
theorem d_X12_wasted_8 : decode mX12_wasted.2.2.1 8 = .ok (.iload_n 1, 1) := by decide +kernel
theorem d_X12_wasted_9 : decode mX12_wasted.2.2.1 9 = .ok (.invokevirtual 656, 3) := by decide +kernel
theorem d_X12_wasted_12 : decode mX12_wasted.2.2.1 12 = .ok (.ifCond .ne 5, 3) := by decide +kernel
theorem d_X12_wasted_17 : decode mX12_wasted.2.2.1 17 = .ok (.iconst 0, 1) := by decide +kernel
theorem d_X12_wasted_18 : decode mX12_wasted.2.2.1 18 = .ok (.istore_n 2, 1) := by decide +kernel
theorem d_X12_wasted_19 : decode mX12_wasted.2.2.1 19 = .ok (.iconst 0, 1) := by decide +kernel
theorem d_X12_wasted_20 : decode mX12_wasted.2.2.1 20 = .ok (.istore_n 3, 1) := by decide +kernel
theorem d_X12_wasted_21 : decode mX12_wasted.2.2.1 21 = .ok (.iload_n 3, 1) := by decide +kernel
theorem d_X12_wasted_22 : decode mX12_wasted.2.2.1 22 = .ok (.aload_n 0, 1) := by decide +kernel
theorem d_X12_wasted_23 : decode mX12_wasted.2.2.1 23 = .ok (.getfield 63, 3) := by decide +kernel
theorem d_X12_wasted_26 : decode mX12_wasted.2.2.1 26 = .ok (.aload_n 0, 1) := by decide +kernel
theorem d_X12_wasted_27 : decode mX12_wasted.2.2.1 27 = .ok (.getfield 48, 3) := by decide +kernel
theorem d_X12_wasted_30 : decode mX12_wasted.2.2.1 30 = .ok (.iaload, 1) := by decide +kernel
theorem d_X12_wasted_31 : decode mX12_wasted.2.2.1 31 = .ok (.if_icmp .ge 205, 3) := by decide +kernel
theorem d_X12_wasted_236 : decode mX12_wasted.2.2.1 236 = .ok (.iload_n 2, 1) := by decide +kernel
theorem d_X12_wasted_237 : decode mX12_wasted.2.2.1 237 = .ok (.ireturn, 1) := by decide +kernel
theorem d_X12_wasted_34 : decode mX12_wasted.2.2.1 34 = .ok (.iconst 1, 1) := by decide +kernel
