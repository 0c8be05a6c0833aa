theorem d_X12_runs_102 : decode mX12_runs.2.2.1 102 = .ok (.goto (-16), 3) := by decide +kernel
theorem d_X12_runs_105 : decode mX12_runs.2.2.1 105 = .ok (.aload_n 0, 1) := by decide +kernel
theorem d_X12_runs_106 : decode mX12_runs.2.2.1 106 = .ok (.iconst 0, 1) := by decide +kernel
theorem d_X12_runs_107 : decode mX12_runs.2.2.1 107 = .ok (.putfield 201, 3) := by decide +kernel
theorem d_X12_runs_110 : decode mX12_runs.2.2.1 110 = .ok (.aload_n 0, 1) := by decide +kernel
theorem d_X12_runs_111 : decode mX12_runs.2.2.1 111 = .ok (.lconst 0, 1) := by decide +kernel
theorem d_X12_runs_112 : decode mX12_runs.2.2.1 112 = .ok (.putfield 204, 3) := by decide +kernel
theorem d_X12_runs_115 : decode mX12_runs.2.2.1 115 = .ok (.aload_n 0, 1) := by decide +kernel
theorem d_X12_runs_116 : decode mX12_runs.2.2.1 116 = .ok (.lload_n 1, 1) := by decide +kernel
theorem d_X12_runs_117 : decode mX12_runs.2.2.1 117 = .ok (.putfield 207, 3) := by decide +kernel
theorem d_X12_runs_120 : decode mX12_runs.2.2.1 120 = .ok (.aload_n 0, 1) := by decide +kernel
theorem d_X12_runs_121 : decode mX12_runs.2.2.1 121 = .ok (.iconst 0, 1) := by decide +kernel
theorem d_X12_runs_122 : decode mX12_runs.2.2.1 122 = .ok (.putfield 210, 3) := by decide +kernel
theorem d_X12_runs_125 : decode mX12_runs.2.2.1 125 = .ok (.aload_n 0, 1) := by decide +kernel
theorem d_X12_runs_126 : decode mX12_runs.2.2.1 126 = .ok (.iconst 0, 1) := by decide +kernel
theorem d_X12_runs_127 : decode mX12_runs.2.2.1 127 = .ok (.putfield 213, 3) := by decide +kernel
theorem d_X12_runs_130 : decode mX12_runs.2.2.1 130 = .ok (.aload_n 0, 1) := by decide +kernel
theorem d_X12_runs_131 : decode mX12_runs.2.2.1 131 = .ok (.iconst 0, 1) := by decide +kernel
theorem d_X12_runs_132 : decode mX12_runs.2.2.1 132 = .ok (.putfield 216, 3) := by decide +kernel
theorem d_X12_runs_135 : decode mX12_runs.2.2.1 135 = .ok (.aload_n 0, 1) := by decide +kernel
theorem d_X12_runs_136 : decode mX12_runs.2.2.1 136 = .ok (.iconst 0, 1) := by decide +kernel
theorem d_X12_runs_137 : decode mX12_runs.2.2.1 137 = .ok (.putfield 219, 3) := by decide +kernel
theorem d_X12_runs_140 : decode mX12_runs.2.2.1 140 = .ok (.aload_n 0, 1) := by decide +kernel
theorem d_X12_runs_141 : decode mX12_runs.2.2.1 141 = .ok (.iconst (-1), 1) := by decide +kernel
theorem d_X12_runs_142 : decode mX12_runs.2.2.1 142 = .ok (.putfield 267, 3) := by decide +kernel
theorem d_X12_runs_145 : decode mX12_runs.2.2.1 145 = .ok (.aload_n 0, 1) := by decide +kernel
theorem d_X12_runs_146 : decode mX12_runs.2.2.1 146 = .ok (.iconst (-1), 1) := by decide +kernel
theorem d_X12_runs_147 : decode mX12_runs.2.2.1 147 = .ok (.putfield 195, 3) := by decide +kernel
theorem d_X12_runs_150 : decode mX12_runs.2.2.1 150 = .ok (.aload_n 0, 1) := by decide +kernel
theorem d_X12_runs_151 : decode mX12_runs.2.2.1 151 = .ok (.iconst 0, 1) := by decide +kernel
theorem d_X12_runs_152 : decode mX12_runs.2.2.1 152 = .ok (.putfield 240, 3) := by decide +kernel
theorem d_X12_runs_155 : decode mX12_runs.2.2.1 155 = .ok (.aload_n 0, 1) := by decide +kernel
theorem d_X12_runs_156 : decode mX12_runs.2.2.1 156 = .ok (.iconst 0, 1) := by decide +kernel
theorem d_X12_runs_157 : decode mX12_runs.2.2.1 157 = .ok (.putfield 252, 3) := by decide +kernel
theorem d_X12_runs_160 : decode mX12_runs.2.2.1 160 = .ok (.iconst 0, 1) := by decide +kernel
theorem d_X12_runs_161 : decode mX12_runs.2.2.1 161 = .ok (.istore_n 3, 1) := by decide +kernel
theorem d_X12_runs_162 : decode mX12_runs.2.2.1 162 = .ok (.iload_n 3, 1) := by decide +kernel
theorem d_X12_runs_163 : decode mX12_runs.2.2.1 163 = .ok (.aload_n 0, 1) := by decide +kernel
theorem d_X12_runs_164 : decode mX12_runs.2.2.1 164 = .ok (.getfield 94, 3) := by decide +kernel
theorem d_X12_runs_167 : decode mX12_runs.2.2.1 167 = .ok (.aload_n 0, 1) := by decide +kernel
theorem d_X12_runs_168 : decode mX12_runs.2.2.1 168 = .ok (.getfield 48, 3) := by decide +kernel
theorem d_X12_runs_171 : decode mX12_runs.2.2.1 171 = .ok (.iaload, 1) := by decide +kernel
theorem d_X12_runs_172 : decode mX12_runs.2.2.1 172 = .ok (.if_icmp .ge 145, 3) := by decide +kernel
theorem d_X12_runs_175 : decode mX12_runs.2.2.1 175 = .ok (.aload_n 0, 1) := by decide +kernel
theorem d_X12_runs_176 : decode mX12_runs.2.2.1 176 = .ok (.getfield 219, 3) := by decide +kernel
theorem d_X12_runs_179 : decode mX12_runs.2.2.1 179 = .ok (.ifCond .ne 138, 3) := by decide +kernel
theorem d_X12_runs_182 : decode mX12_runs.2.2.1 182 = .ok (.sipush 200, 3) := by decide +kernel
theorem d_X12_runs_185 : decode mX12_runs.2.2.1 185 = .ok (.aload_n 0, 1) := by decide +kernel
theorem d_X12_runs_186 : decode mX12_runs.2.2.1 186 = .ok (.getfield 48, 3) := by decide +kernel
theorem d_X12_runs_189 : decode mX12_runs.2.2.1 189 = .ok (.imul, 1) := by decide +kernel
theorem d_X12_runs_190 : decode mX12_runs.2.2.1 190 = .ok (.iload_n 3, 1) := by decide +kernel
theorem d_X12_runs_191 : decode mX12_runs.2.2.1 191 = .ok (.iadd, 1) := by decide +kernel
theorem d_X12_runs_192 : decode mX12_runs.2.2.1 192 = .ok (.istore 4, 2) := by decide +kernel
theorem d_X12_runs_194 : decode mX12_runs.2.2.1 194 = .ok (.iinc 3 1, 3) := by decide +kernel
theorem d_X12_runs_197 : decode mX12_runs.2.2.1 197 = .ok (.aload_n 0, 1) := by decide +kernel
theorem d_X12_runs_198 : decode mX12_runs.2.2.1 198 = .ok (.getfield 97, 3) := by decide +kernel
theorem d_X12_runs_201 : decode mX12_runs.2.2.1 201 = .ok (.iload 4, 2) := by decide +kernel
theorem d_X12_runs_203 : decode mX12_runs.2.2.1 203 = .ok (.iaload, 1) := by decide +kernel
theorem d_X12_runs_204 : decode mX12_runs.2.2.1 204 = .ok (.ifCond .ne 14, 3) := by decide +kernel
theorem d_X12_runs_218 : decode mX12_runs.2.2.1 218 = .ok (.aload_n 0, 1) := by decide +kernel
theorem d_X12_runs_219 : decode mX12_runs.2.2.1 219 = .ok (.aload_n 0, 1) := by decide +kernel
theorem d_X12_runs_220 : decode mX12_runs.2.2.1 220 = .ok (.getfield 100, 3) := by decide +kernel
theorem d_X12_runs_223 : decode mX12_runs.2.2.1 223 = .ok (.iload 4, 2) := by decide +kernel
theorem d_X12_runs_225 : decode mX12_runs.2.2.1 225 = .ok (.iaload, 1) := by decide +kernel
theorem d_X12_runs_226 : decode mX12_runs.2.2.1 226 = .ok (.invokevirtual 577, 3) := by decide +kernel
def mX12_tick : MD := (12, yX12_tick, cX12_tick, 6, some .boolean)
theorem sel_X12_tick : Cond.instanceMethod mX12_tick.2.1 ∈ tblG ∧ Cond.selects mX12_tick.2.1.cls mX12_tick.2.1 mX12_tick.2.1 ∈ tblG := ⟨tblG_in (inT9 (List.mem_of_getElem? (i := 56) rfl)) rfl, tblG_in (inP7 (q := (mX12_tick.2.1, 121)) (List.mem_of_getElem? (i := 11) rfl)) rfl⟩
theorem s_12_577 : e_siteV 12 577 mX12_tick 12 := ⟨tblG_in (inT9 (List.mem_of_getElem? (i := 54) rfl)) rfl, sel_X12_tick.1, sel_X12_tick.2, rfl⟩
theorem d_X12_tick_0 : decode mX12_tick.2.2.1 0 = .ok (.iload_n 1, 1) := by decide +kernel
theorem d_X12_tick_1 : decode mX12_tick.2.2.1 1 = .ok (.iconst (-1), 1) := by decide +kernel
theorem d_X12_tick_2 : decode mX12_tick.2.2.1 2 = .ok (.if_icmp .eq 18, 3) := by decide +kernel
theorem d_X12_tick_5 : decode mX12_tick.2.2.1 5 = .ok (.aload_n 0, 1) := by decide +kernel
theorem d_X12_tick_6 : decode mX12_tick.2.2.1 6 = .ok (.getfield 201, 3) := by decide +kernel
theorem d_X12_tick_9 : decode mX12_tick.2.2.1 9 = .ok (.sipush 2000, 3) := by decide +kernel
theorem d_X12_tick_12 : decode mX12_tick.2.2.1 12 = .ok (.if_icmp .ne 8, 3) := by decide +kernel
theorem d_X12_tick_15 : decode mX12_tick.2.2.1 15 = .ok (.aload_n 0, 1) := by decide +kernel
theorem d_X12_tick_16 : decode mX12_tick.2.2.1 16 = .ok (.iconst 1, 1) := by decide +kernel
theorem d_X12_tick_17 : decode mX12_tick.2.2.1 17 = .ok (.putfield 219, 3) := by decide +kernel
theorem d_X12_tick_20 : decode mX12_tick.2.2.1 20 = .ok (.iload_n 1, 1) := by decide +kernel
theorem d_X12_tick_21 : decode mX12_tick.2.2.1 21 = .ok (.iconst (-1), 1) := by decide +kernel
theorem d_X12_tick_22 : decode mX12_tick.2.2.1 22 = .ok (.if_icmp .ne 7, 3) := by decide +kernel
theorem d_X12_tick_29 : decode mX12_tick.2.2.1 29 = .ok (.aload_n 0, 1) := by decide +kernel
theorem d_X12_tick_30 : decode mX12_tick.2.2.1 30 = .ok (.getfield 51, 3) := by decide +kernel
theorem d_X12_tick_33 : decode mX12_tick.2.2.1 33 = .ok (.aload_n 0, 1) := by decide +kernel
theorem d_X12_tick_34 : decode mX12_tick.2.2.1 34 = .ok (.getfield 48, 3) := by decide +kernel
theorem d_X12_tick_37 : decode mX12_tick.2.2.1 37 = .ok (.iaload, 1) := by decide +kernel
theorem d_X12_tick_38 : decode mX12_tick.2.2.1 38 = .ok (.i2l, 1) := by decide +kernel
theorem d_X12_tick_39 : decode mX12_tick.2.2.1 39 = .ok (.lstore_n 2, 1) := by decide +kernel
theorem d_X12_tick_40 : decode mX12_tick.2.2.1 40 = .ok (.iconst 0, 1) := by decide +kernel
theorem d_X12_tick_41 : decode mX12_tick.2.2.1 41 = .ok (.istore 4, 2) := by decide +kernel
theorem d_X12_tick_43 : decode mX12_tick.2.2.1 43 = .ok (.iload 4, 2) := by decide +kernel
theorem d_X12_tick_45 : decode mX12_tick.2.2.1 45 = .ok (.aload_n 0, 1) := by decide +kernel
theorem d_X12_tick_46 : decode mX12_tick.2.2.1 46 = .ok (.getfield 63, 3) := by decide +kernel
theorem d_X12_tick_49 : decode mX12_tick.2.2.1 49 = .ok (.aload_n 0, 1) := by decide +kernel
theorem d_X12_tick_50 : decode mX12_tick.2.2.1 50 = .ok (.getfield 48, 3) := by decide +kernel
theorem d_X12_tick_53 : decode mX12_tick.2.2.1 53 = .ok (.iaload, 1) := by decide +kernel
theorem d_X12_tick_54 : decode mX12_tick.2.2.1 54 = .ok (.if_icmp .ge 25, 3) := by decide +kernel
theorem d_X12_tick_79 : decode mX12_tick.2.2.1 79 = .ok (.aload_n 0, 1) := by decide +kernel
theorem d_X12_tick_80 : decode mX12_tick.2.2.1 80 = .ok (.getfield 219, 3) := by decide +kernel
theorem d_X12_tick_83 : decode mX12_tick.2.2.1 83 = .ok (.ifCond .ne 36, 3) := by decide +kernel
theorem d_X12_tick_86 : decode mX12_tick.2.2.1 86 = .ok (.iload_n 1, 1) := by decide +kernel
theorem d_X12_tick_87 : decode mX12_tick.2.2.1 87 = .ok (.iconst (-1), 1) := by decide +kernel
theorem d_X12_tick_88 : decode mX12_tick.2.2.1 88 = .ok (.if_icmp .eq 31, 3) := by decide +kernel
theorem d_X12_tick_91 : decode mX12_tick.2.2.1 91 = .ok (.aload_n 0, 1) := by decide +kernel
theorem d_X12_tick_92 : decode mX12_tick.2.2.1 92 = .ok (.getfield 207, 3) := by decide +kernel
theorem d_X12_tick_95 : decode mX12_tick.2.2.1 95 = .ok (.lconst 0, 1) := by decide +kernel
theorem d_X12_tick_96 : decode mX12_tick.2.2.1 96 = .ok (.lcmp, 1) := by decide +kernel
theorem d_X12_tick_97 : decode mX12_tick.2.2.1 97 = .ok (.ifCond .lt 22, 3) := by decide +kernel
theorem d_X12_tick_100 : decode mX12_tick.2.2.1 100 = .ok (.lload_n 2, 1) := by decide +kernel
theorem d_X12_tick_101 : decode mX12_tick.2.2.1 101 = .ok (.aload_n 0, 1) := by decide +kernel
theorem d_X12_tick_102 : decode mX12_tick.2.2.1 102 = .ok (.getfield 207, 3) := by decide +kernel
theorem d_X12_tick_105 : decode mX12_tick.2.2.1 105 = .ok (.aload_n 0, 1) := by decide +kernel
theorem d_X12_tick_106 : decode mX12_tick.2.2.1 106 = .ok (.getfield 204, 3) := by decide +kernel
theorem d_X12_tick_109 : decode mX12_tick.2.2.1 109 = .ok (.lsub, 1) := by decide +kernel
theorem d_X12_tick_110 : decode mX12_tick.2.2.1 110 = .ok (.lcmp, 1) := by decide +kernel
theorem d_X12_tick_111 : decode mX12_tick.2.2.1 111 = .ok (.ifCond .le 8, 3) := by decide +kernel
theorem d_X12_tick_114 : decode mX12_tick.2.2.1 114 = .ok (.aload_n 0, 1) := by decide +kernel
theorem d_X12_tick_115 : decode mX12_tick.2.2.1 115 = .ok (.iconst 2, 1) := by decide +kernel
theorem d_X12_tick_116 : decode mX12_tick.2.2.1 116 = .ok (.putfield 219, 3) := by decide +kernel
theorem d_X12_tick_57 : decode mX12_tick.2.2.1 57 = .ok (.lload_n 2, 1) := by decide +kernel
theorem d_X12_tick_58 : decode mX12_tick.2.2.1 58 = .ok (.aload_n 0, 1) := by decide +kernel
theorem d_X12_tick_59 : decode mX12_tick.2.2.1 59 = .ok (.iload 4, 2) := by decide +kernel
theorem d_X12_tick_61 : decode mX12_tick.2.2.1 61 = .ok (.aload_n 0, 1) := by decide +kernel
theorem d_X12_tick_62 : decode mX12_tick.2.2.1 62 = .ok (.iload 4, 2) := by decide +kernel
theorem d_X12_tick_64 : decode mX12_tick.2.2.1 64 = .ok (.invokevirtual 571, 3) := by decide +kernel
def mX12_stateOf : MD := (12, yX12_stateOf, cX12_stateOf, 2, some .int)
theorem sel_X12_stateOf : Cond.instanceMethod mX12_stateOf.2.1 ∈ tblG ∧ Cond.selects mX12_stateOf.2.1.cls mX12_stateOf.2.1 mX12_stateOf.2.1 ∈ tblG := ⟨tblG_in (inT9 (List.mem_of_getElem? (i := 60) rfl)) rfl, tblG_in (inP7 (q := (mX12_stateOf.2.1, 121)) (List.mem_of_getElem? (i := 12) rfl)) rfl⟩
theorem s_12_571 : e_siteV 12 571 mX12_stateOf 12 := ⟨tblG_in (inT9 (List.mem_of_getElem? (i := 58) rfl)) rfl, sel_X12_stateOf.1, sel_X12_stateOf.2, rfl⟩
theorem d_X12_stateOf_0 : decode mX12_stateOf.2.2.1 0 = .ok (.iload_n 1, 1) := by decide +kernel
theorem d_X12_stateOf_1 : decode mX12_stateOf.2.2.1 1 = .ok (.aload_n 0, 1) := by decide +kernel
theorem d_X12_stateOf_2 : decode mX12_stateOf.2.2.1 2 = .ok (.getfield 192, 3) := by decide +kernel
theorem d_X12_stateOf_5 : decode mX12_stateOf.2.2.1 5 = .ok (.if_icmp .ne 10, 3) := by decide +kernel
theorem d_X12_stateOf_15 : decode mX12_stateOf.2.2.1 15 = .ok (.aload_n 0, 1) := by decide +kernel
theorem d_X12_stateOf_16 : decode mX12_stateOf.2.2.1 16 = .ok (.getfield 177, 3) := by decide +kernel
theorem d_X12_stateOf_19 : decode mX12_stateOf.2.2.1 19 = .ok (.iload_n 1, 1) := by decide +kernel
theorem d_X12_stateOf_20 : decode mX12_stateOf.2.2.1 20 = .ok (.baload, 1) := by decide +kernel
theorem d_X12_stateOf_21 : decode mX12_stateOf.2.2.1 21 = .ok (.ifCond .ne 12, 3) := by decide +kernel
theorem d_X12_stateOf_33 : decode mX12_stateOf.2.2.1 33 = .ok (.iconst 2, 1) := by decide +kernel
theorem d_X12_stateOf_34 : decode mX12_stateOf.2.2.1 34 = .ok (.goto 4, 3) := by decide +kernel
theorem d_X12_stateOf_38 : decode mX12_stateOf.2.2.1 38 = .ok (.ireturn, 1) := by decide +kernel
theorem d_X12_stateOf_24 : decode mX12_stateOf.2.2.1 24 = .ok (.aload_n 0, 1) := by decide +kernel
theorem d_X12_stateOf_25 : decode mX12_stateOf.2.2.1 25 = .ok (.getfield 183, 3) := by decide +kernel
theorem d_X12_stateOf_28 : decode mX12_stateOf.2.2.1 28 = .ok (.iload_n 1, 1) := by decide +kernel
theorem d_X12_stateOf_29 : decode mX12_stateOf.2.2.1 29 = .ok (.iaload, 1) := by decide +kernel
theorem d_X12_stateOf_30 : decode mX12_stateOf.2.2.1 30 = .ok (.ifCond .le 7, 3) := by decide +kernel
theorem d_X12_stateOf_37 : decode mX12_stateOf.2.2.1 37 = .ok (.iconst 0, 1) := by decide +kernel
theorem d_X12_stateOf_8 : decode mX12_stateOf.2.2.1 8 = .ok (.aload_n 0, 1) := by decide +kernel
theorem d_X12_stateOf_9 : decode mX12_stateOf.2.2.1 9 = .ok (.getfield 198, 3) := by decide +kernel
theorem d_X12_stateOf_12 : decode mX12_stateOf.2.2.1 12 = .ok (.goto 26, 3) := by decide +kernel
theorem ok_X12_stateOf : e_m mX12_stateOf 1 := ⟨tblG_in (inT9 (List.mem_of_getElem? (i := 61) rfl)) rfl, plainFor_of_name (by decide), rfl, ini_12, by decide +kernel, by decide⟩
theorem d_X12_tick_67 : decode mX12_tick.2.2.1 67 = .ok (.invokevirtual 574, 3) := by decide +kernel
theorem d_X12_tick_70 : decode mX12_tick.2.2.1 70 = .ok (.i2l, 1) := by decide +kernel
theorem d_X12_tick_71 : decode mX12_tick.2.2.1 71 = .ok (.ladd, 1) := by decide +kernel
theorem d_X12_tick_72 : decode mX12_tick.2.2.1 72 = .ok (.lstore_n 2, 1) := by decide +kernel
theorem d_X12_tick_73 : decode mX12_tick.2.2.1 73 = .ok (.iinc 4 1, 3) := by decide +kernel
theorem d_X12_tick_76 : decode mX12_tick.2.2.1 76 = .ok (.goto (-33), 3) := by decide +kernel
theorem d_X12_tick_119 : decode mX12_tick.2.2.1 119 = .ok (.aload_n 0, 1) := by decide +kernel
theorem d_X12_tick_120 : decode mX12_tick.2.2.1 120 = .ok (.getfield 219, 3) := by decide +kernel
theorem d_X12_tick_123 : decode mX12_tick.2.2.1 123 = .ok (.ifCond .le 5, 3) := by decide +kernel
theorem d_X12_tick_128 : decode mX12_tick.2.2.1 128 = .ok (.iconst 0, 1) := by decide +kernel
theorem d_X12_tick_129 : decode mX12_tick.2.2.1 129 = .ok (.istore 4, 2) := by decide +kernel
theorem d_X12_tick_126 : decode mX12_tick.2.2.1 126 = .ok (.iconst 0, 1) := by decide +kernel
theorem d_X12_tick_127 : decode mX12_tick.2.2.1 127 = .ok (.ireturn, 1) := by decide +kernel
theorem d_X12_tick_131 : decode mX12_tick.2.2.1 131 = .ok (.iload 4, 2) := by decide +kernel
theorem d_X12_tick_133 : decode mX12_tick.2.2.1 133 = .ok (.aload_n 0, 1) := by decide +kernel
theorem d_X12_tick_134 : decode mX12_tick.2.2.1 134 = .ok (.getfield 63, 3) := by decide +kernel
theorem d_X12_tick_137 : decode mX12_tick.2.2.1 137 = .ok (.aload_n 0, 1) := by decide +kernel
theorem d_X12_tick_138 : decode mX12_tick.2.2.1 138 = .ok (.getfield 48, 3) := by decide +kernel
theorem d_X12_tick_141 : decode mX12_tick.2.2.1 141 = .ok (.iaload, 1) := by decide +kernel
theorem d_X12_tick_142 : decode mX12_tick.2.2.1 142 = .ok (.if_icmp .ge 155, 3) := by decide +kernel
theorem d_X12_tick_297 : decode mX12_tick.2.2.1 297 = .ok (.aload_n 0, 1) := by decide +kernel
theorem d_X12_tick_298 : decode mX12_tick.2.2.1 298 = .ok (.getfield 225, 3) := by decide +kernel
theorem d_X12_tick_301 : decode mX12_tick.2.2.1 301 = .ok (.ifCond .eq 13, 3) := by decide +kernel
theorem d_X12_tick_304 : decode mX12_tick.2.2.1 304 = .ok (.aload_n 0, 1) := by decide +kernel
theorem d_X12_tick_305 : decode mX12_tick.2.2.1 305 = .ok (.getfield 228, 3) := by decide +kernel
theorem d_X12_tick_308 : decode mX12_tick.2.2.1 308 = .ok (.aload_n 0, 1) := by decide +kernel
theorem d_X12_tick_309 : decode mX12_tick.2.2.1 309 = .ok (.getfield 201, 3) := by decide +kernel
theorem d_X12_tick_312 : decode mX12_tick.2.2.1 312 = .ok (.iload_n 1, 1) := by decide +kernel
theorem d_X12_tick_313 : decode mX12_tick.2.2.1 313 = .ok (.iastore, 1) := by decide +kernel
theorem d_X12_tick_145 : decode mX12_tick.2.2.1 145 = .ok (.aload_n 0, 1) := by decide +kernel
theorem d_X12_tick_146 : decode mX12_tick.2.2.1 146 = .ok (.iload 4, 2) := by decide +kernel
theorem d_X12_tick_148 : decode mX12_tick.2.2.1 148 = .ok (.invokevirtual 571, 3) := by decide +kernel
theorem d_X12_tick_151 : decode mX12_tick.2.2.1 151 = .ok (.istore 5, 2) := by decide +kernel
theorem d_X12_tick_153 : decode mX12_tick.2.2.1 153 = .ok (.aload_n 0, 1) := by decide +kernel
theorem d_X12_tick_154 : decode mX12_tick.2.2.1 154 = .ok (.getfield 222, 3) := by decide +kernel
theorem d_X12_tick_157 : decode mX12_tick.2.2.1 157 = .ok (.iconst 4, 1) := by decide +kernel
theorem d_X12_tick_158 : decode mX12_tick.2.2.1 158 = .ok (.iload 4, 2) := by decide +kernel
theorem d_X12_tick_160 : decode mX12_tick.2.2.1 160 = .ok (.imul, 1) := by decide +kernel
theorem d_X12_tick_161 : decode mX12_tick.2.2.1 161 = .ok (.iload 5, 2) := by decide +kernel
theorem d_X12_tick_163 : decode mX12_tick.2.2.1 163 = .ok (.iadd, 1) := by decide +kernel
theorem d_X12_tick_164 : decode mX12_tick.2.2.1 164 = .ok (.dup2, 1) := by decide +kernel
theorem d_X12_tick_165 : decode mX12_tick.2.2.1 165 = .ok (.iaload, 1) := by decide +kernel
theorem d_X12_tick_166 : decode mX12_tick.2.2.1 166 = .ok (.iconst 1, 1) := by decide +kernel
theorem d_X12_tick_167 : decode mX12_tick.2.2.1 167 = .ok (.iadd, 1) := by decide +kernel
theorem d_X12_tick_168 : decode mX12_tick.2.2.1 168 = .ok (.iastore, 1) := by decide +kernel
theorem d_X12_tick_169 : decode mX12_tick.2.2.1 169 = .ok (.aload_n 0, 1) := by decide +kernel
theorem d_X12_tick_170 : decode mX12_tick.2.2.1 170 = .ok (.getfield 225, 3) := by decide +kernel
theorem d_X12_tick_173 : decode mX12_tick.2.2.1 173 = .ok (.ifCond .eq 91, 3) := by decide +kernel
theorem d_X12_tick_176 : decode mX12_tick.2.2.1 176 = .ok (.aload_n 0, 1) := by decide +kernel
theorem d_X12_tick_177 : decode mX12_tick.2.2.1 177 = .ok (.getfield 231, 3) := by decide +kernel
theorem d_X12_tick_180 : decode mX12_tick.2.2.1 180 = .ok (.sipush 2100, 3) := by decide +kernel
theorem d_X12_tick_183 : decode mX12_tick.2.2.1 183 = .ok (.iload 4, 2) := by decide +kernel
theorem d_X12_tick_185 : decode mX12_tick.2.2.1 185 = .ok (.imul, 1) := by decide +kernel
theorem d_X12_tick_186 : decode mX12_tick.2.2.1 186 = .ok (.aload_n 0, 1) := by decide +kernel
theorem d_X12_tick_187 : decode mX12_tick.2.2.1 187 = .ok (.getfield 201, 3) := by decide +kernel
theorem d_X12_tick_190 : decode mX12_tick.2.2.1 190 = .ok (.iadd, 1) := by decide +kernel
theorem d_X12_tick_191 : decode mX12_tick.2.2.1 191 = .ok (.iload 5, 2) := by decide +kernel
theorem d_X12_tick_193 : decode mX12_tick.2.2.1 193 = .ok (.iastore, 1) := by decide +kernel
theorem d_X12_tick_194 : decode mX12_tick.2.2.1 194 = .ok (.aload_n 0, 1) := by decide +kernel
theorem d_X12_tick_195 : decode mX12_tick.2.2.1 195 = .ok (.getfield 234, 3) := by decide +kernel
theorem d_X12_tick_198 : decode mX12_tick.2.2.1 198 = .ok (.sipush 2100, 3) := by decide +kernel
theorem d_X12_tick_201 : decode mX12_tick.2.2.1 201 = .ok (.iload 4, 2) := by decide +kernel
theorem d_X12_tick_203 : decode mX12_tick.2.2.1 203 = .ok (.imul, 1) := by decide +kernel
theorem d_X12_tick_204 : decode mX12_tick.2.2.1 204 = .ok (.aload_n 0, 1) := by decide +kernel
theorem d_X12_tick_205 : decode mX12_tick.2.2.1 205 = .ok (.getfield 201, 3) := by decide +kernel
theorem d_X12_tick_208 : decode mX12_tick.2.2.1 208 = .ok (.iadd, 1) := by decide +kernel
theorem d_X12_tick_209 : decode mX12_tick.2.2.1 209 = .ok (.iload 5, 2) := by decide +kernel
theorem d_X12_tick_211 : decode mX12_tick.2.2.1 211 = .ok (.iconst 2, 1) := by decide +kernel
theorem d_X12_tick_212 : decode mX12_tick.2.2.1 212 = .ok (.if_icmp .ne 13, 3) := by decide +kernel
theorem d_X12_tick_225 : decode mX12_tick.2.2.1 225 = .ok (.iload_n 1, 1) := by decide +kernel
theorem d_X12_tick_215 : decode mX12_tick.2.2.1 215 = .ok (.aload_n 0, 1) := by decide +kernel
theorem d_X12_tick_216 : decode mX12_tick.2.2.1 216 = .ok (.getfield 186, 3) := by decide +kernel
theorem d_X12_tick_219 : decode mX12_tick.2.2.1 219 = .ok (.iload 4, 2) := by decide +kernel
theorem d_X12_tick_221 : decode mX12_tick.2.2.1 221 = .ok (.iaload, 1) := by decide +kernel
theorem d_X12_tick_222 : decode mX12_tick.2.2.1 222 = .ok (.goto 4, 3) := by decide +kernel
theorem d_X12_tick_314 : decode mX12_tick.2.2.1 314 = .ok (.aload_n 0, 1) := by decide +kernel
theorem d_X12_tick_315 : decode mX12_tick.2.2.1 315 = .ok (.dup, 1) := by decide +kernel
theorem d_X12_tick_316 : decode mX12_tick.2.2.1 316 = .ok (.getfield 204, 3) := by decide +kernel
theorem d_X12_tick_319 : decode mX12_tick.2.2.1 319 = .ok (.lload_n 2, 1) := by decide +kernel
theorem d_X12_tick_320 : decode mX12_tick.2.2.1 320 = .ok (.ladd, 1) := by decide +kernel
