theorem d_X12_must__0 : decode mX12_must_.2.2.1 0 = .ok (.aload_n 0, 1) := by decide +kernel
theorem d_X12_must__1 : decode mX12_must_.2.2.1 1 = .ok (.getfield 36, 3) := by decide +kernel
theorem d_X12_must__4 : decode mX12_must_.2.2.1 4 = .ok (.ifCond .le 4, 3) := by decide +kernel
theorem d_X12_must__8 : decode mX12_must_.2.2.1 8 = .ok (.aload_n 0, 1) := by decide +kernel
theorem d_X12_must__9 : decode mX12_must_.2.2.1 9 = .ok (.lload_n 1, 1) := by decide +kernel
theorem d_X12_must__10 : decode mX12_must_.2.2.1 10 = .ok (.invokevirtual 484, 3) := by decide +kernel
theorem d_X12_must__13 : decode mX12_must_.2.2.1 13 = .ok (.ifCond .ne 12, 3) := by decide +kernel
theorem d_X12_must__16 : decode mX12_must_.2.2.1 16 = .ok (.aload_n 0, 1) := by decide +kernel
theorem d_X12_must__17 : decode mX12_must_.2.2.1 17 = .ok (.iconst 1, 1) := by decide +kernel
theorem d_X12_must__18 : decode mX12_must_.2.2.1 18 = .ok (.aload_n 0, 1) := by decide +kernel
theorem d_X12_must__19 : decode mX12_must_.2.2.1 19 = .ok (.getfield 23, 3) := by decide +kernel
theorem d_X12_must__22 : decode mX12_must_.2.2.1 22 = .ok (.invokevirtual 389, 3) := by decide +kernel
theorem d_X12_must__7 : decode mX12_must_.2.2.1 7 = .ok (.return_, 1) := by decide +kernel
theorem d_X12_must__25 : decode mX12_must_.2.2.1 25 = .ok (.aload_n 0, 1) := by decide +kernel
theorem d_X12_must__26 : decode mX12_must_.2.2.1 26 = .ok (.getfield 36, 3) := by decide +kernel
theorem d_X12_must__29 : decode mX12_must_.2.2.1 29 = .ok (.ifCond .ne 7, 3) := by decide +kernel
theorem d_X12_must__36 : decode mX12_must_.2.2.1 36 = .ok (.return_, 1) := by decide +kernel
theorem d_X12_must__32 : decode mX12_must_.2.2.1 32 = .ok (.aload_n 0, 1) := by decide +kernel
theorem d_X12_must__33 : decode mX12_must_.2.2.1 33 = .ok (.invokevirtual 396, 3) := by decide +kernel
theorem ok_X12_must_ : e_m mX12_must_ 1 := ⟨tblG_in (inT8 (List.mem_of_getElem? (i := 179) rfl)) rfl, plainFor_of_name (by decide), rfl, ini_12, by decide +kernel, by decide⟩
theorem d_X12_part_66 : decode mX12_part.2.2.1 66 = .ok (.aload_n 0, 1) := by decide +kernel
theorem d_X12_part_67 : decode mX12_part.2.2.1 67 = .ok (.getfield 79, 3) := by decide +kernel
theorem d_X12_part_70 : decode mX12_part.2.2.1 70 = .ok (.bipush 6, 2) := by decide +kernel
theorem d_X12_part_72 : decode mX12_part.2.2.1 72 = .ok (.iload_n 1, 1) := by decide +kernel
theorem d_X12_part_73 : decode mX12_part.2.2.1 73 = .ok (.imul, 1) := by decide +kernel
theorem d_X12_part_74 : decode mX12_part.2.2.1 74 = .ok (.aload_n 0, 1) := by decide +kernel
theorem d_X12_part_75 : decode mX12_part.2.2.1 75 = .ok (.iconst 0, 1) := by decide +kernel
theorem d_X12_part_76 : decode mX12_part.2.2.1 76 = .ok (.sipush 999, 3) := by decide +kernel
theorem d_X12_part_79 : decode mX12_part.2.2.1 79 = .ok (.invokevirtual 516, 3) := by decide +kernel
theorem d_X12_part_82 : decode mX12_part.2.2.1 82 = .ok (.iastore, 1) := by decide +kernel
theorem d_X12_part_83 : decode mX12_part.2.2.1 83 = .ok (.aload_n 0, 1) := by decide +kernel
theorem d_X12_part_84 : decode mX12_part.2.2.1 84 = .ok (.ldc2_w 407, 3) := by decide +kernel
theorem d_X12_part_87 : decode mX12_part.2.2.1 87 = .ok (.invokevirtual 512, 3) := by decide +kernel
theorem d_X12_part_90 : decode mX12_part.2.2.1 90 = .ok (.aload_n 0, 1) := by decide +kernel
theorem d_X12_part_91 : decode mX12_part.2.2.1 91 = .ok (.getfield 79, 3) := by decide +kernel
theorem d_X12_part_94 : decode mX12_part.2.2.1 94 = .ok (.bipush 6, 2) := by decide +kernel
theorem d_X12_part_96 : decode mX12_part.2.2.1 96 = .ok (.iload_n 1, 1) := by decide +kernel
theorem d_X12_part_97 : decode mX12_part.2.2.1 97 = .ok (.imul, 1) := by decide +kernel
theorem d_X12_part_98 : decode mX12_part.2.2.1 98 = .ok (.iconst 1, 1) := by decide +kernel
theorem d_X12_part_99 : decode mX12_part.2.2.1 99 = .ok (.iadd, 1) := by decide +kernel
theorem d_X12_part_100 : decode mX12_part.2.2.1 100 = .ok (.aload_n 0, 1) := by decide +kernel
theorem d_X12_part_101 : decode mX12_part.2.2.1 101 = .ok (.iconst 0, 1) := by decide +kernel
theorem d_X12_part_102 : decode mX12_part.2.2.1 102 = .ok (.bipush 20, 2) := by decide +kernel
theorem d_X12_part_104 : decode mX12_part.2.2.1 104 = .ok (.invokevirtual 516, 3) := by decide +kernel
theorem d_X12_part_107 : decode mX12_part.2.2.1 107 = .ok (.iastore, 1) := by decide +kernel
theorem d_X12_part_108 : decode mX12_part.2.2.1 108 = .ok (.aload_n 0, 1) := by decide +kernel
theorem d_X12_part_109 : decode mX12_part.2.2.1 109 = .ok (.getfield 79, 3) := by decide +kernel
theorem d_X12_part_112 : decode mX12_part.2.2.1 112 = .ok (.bipush 6, 2) := by decide +kernel
theorem d_X12_part_114 : decode mX12_part.2.2.1 114 = .ok (.iload_n 1, 1) := by decide +kernel
theorem d_X12_part_115 : decode mX12_part.2.2.1 115 = .ok (.imul, 1) := by decide +kernel
theorem d_X12_part_116 : decode mX12_part.2.2.1 116 = .ok (.iconst 2, 1) := by decide +kernel
theorem d_X12_part_117 : decode mX12_part.2.2.1 117 = .ok (.iadd, 1) := by decide +kernel
theorem d_X12_part_118 : decode mX12_part.2.2.1 118 = .ok (.aload_n 0, 1) := by decide +kernel
theorem d_X12_part_119 : decode mX12_part.2.2.1 119 = .ok (.iconst 0, 1) := by decide +kernel
theorem d_X12_part_120 : decode mX12_part.2.2.1 120 = .ok (.sipush 999, 3) := by decide +kernel
theorem d_X12_part_123 : decode mX12_part.2.2.1 123 = .ok (.invokevirtual 516, 3) := by decide +kernel
theorem d_X12_part_126 : decode mX12_part.2.2.1 126 = .ok (.iastore, 1) := by decide +kernel
theorem d_X12_part_127 : decode mX12_part.2.2.1 127 = .ok (.aload_n 0, 1) := by decide +kernel
theorem d_X12_part_128 : decode mX12_part.2.2.1 128 = .ok (.ldc2_w 409, 3) := by decide +kernel
theorem d_X12_part_131 : decode mX12_part.2.2.1 131 = .ok (.invokevirtual 512, 3) := by decide +kernel
theorem d_X12_part_134 : decode mX12_part.2.2.1 134 = .ok (.aload_n 0, 1) := by decide +kernel
theorem d_X12_part_135 : decode mX12_part.2.2.1 135 = .ok (.getfield 79, 3) := by decide +kernel
theorem d_X12_part_138 : decode mX12_part.2.2.1 138 = .ok (.bipush 6, 2) := by decide +kernel
theorem d_X12_part_140 : decode mX12_part.2.2.1 140 = .ok (.iload_n 1, 1) := by decide +kernel
theorem d_X12_part_141 : decode mX12_part.2.2.1 141 = .ok (.imul, 1) := by decide +kernel
theorem d_X12_part_142 : decode mX12_part.2.2.1 142 = .ok (.iconst 3, 1) := by decide +kernel
theorem d_X12_part_143 : decode mX12_part.2.2.1 143 = .ok (.iadd, 1) := by decide +kernel
theorem d_X12_part_144 : decode mX12_part.2.2.1 144 = .ok (.aload_n 0, 1) := by decide +kernel
theorem d_X12_part_145 : decode mX12_part.2.2.1 145 = .ok (.iconst 0, 1) := by decide +kernel
theorem d_X12_part_146 : decode mX12_part.2.2.1 146 = .ok (.sipush 999, 3) := by decide +kernel
theorem d_X12_part_149 : decode mX12_part.2.2.1 149 = .ok (.invokevirtual 516, 3) := by decide +kernel
theorem d_X12_part_152 : decode mX12_part.2.2.1 152 = .ok (.iastore, 1) := by decide +kernel
theorem d_X12_part_153 : decode mX12_part.2.2.1 153 = .ok (.aload_n 0, 1) := by decide +kernel
theorem d_X12_part_154 : decode mX12_part.2.2.1 154 = .ok (.ldc2_w 411, 3) := by decide +kernel
theorem d_X12_part_157 : decode mX12_part.2.2.1 157 = .ok (.invokevirtual 512, 3) := by decide +kernel
theorem d_X12_part_160 : decode mX12_part.2.2.1 160 = .ok (.aload_n 0, 1) := by decide +kernel
theorem d_X12_part_161 : decode mX12_part.2.2.1 161 = .ok (.getfield 79, 3) := by decide +kernel
theorem d_X12_part_164 : decode mX12_part.2.2.1 164 = .ok (.bipush 6, 2) := by decide +kernel
theorem d_X12_part_166 : decode mX12_part.2.2.1 166 = .ok (.iload_n 1, 1) := by decide +kernel
theorem d_X12_part_167 : decode mX12_part.2.2.1 167 = .ok (.imul, 1) := by decide +kernel
theorem d_X12_part_168 : decode mX12_part.2.2.1 168 = .ok (.iconst 4, 1) := by decide +kernel
theorem d_X12_part_169 : decode mX12_part.2.2.1 169 = .ok (.iadd, 1) := by decide +kernel
theorem d_X12_part_170 : decode mX12_part.2.2.1 170 = .ok (.aload_n 0, 1) := by decide +kernel
theorem d_X12_part_171 : decode mX12_part.2.2.1 171 = .ok (.iconst 0, 1) := by decide +kernel
theorem d_X12_part_172 : decode mX12_part.2.2.1 172 = .ok (.sipush 999, 3) := by decide +kernel
theorem d_X12_part_175 : decode mX12_part.2.2.1 175 = .ok (.invokevirtual 516, 3) := by decide +kernel
theorem d_X12_part_178 : decode mX12_part.2.2.1 178 = .ok (.iastore, 1) := by decide +kernel
theorem d_X12_part_179 : decode mX12_part.2.2.1 179 = .ok (.aload_n 0, 1) := by decide +kernel
theorem d_X12_part_180 : decode mX12_part.2.2.1 180 = .ok (.ldc2_w 413, 3) := by decide +kernel
theorem d_X12_part_183 : decode mX12_part.2.2.1 183 = .ok (.invokevirtual 512, 3) := by decide +kernel
theorem d_X12_part_186 : decode mX12_part.2.2.1 186 = .ok (.aload_n 0, 1) := by decide +kernel
theorem d_X12_part_187 : decode mX12_part.2.2.1 187 = .ok (.getfield 79, 3) := by decide +kernel
theorem d_X12_part_190 : decode mX12_part.2.2.1 190 = .ok (.bipush 6, 2) := by decide +kernel
theorem d_X12_part_192 : decode mX12_part.2.2.1 192 = .ok (.iload_n 1, 1) := by decide +kernel
theorem d_X12_part_193 : decode mX12_part.2.2.1 193 = .ok (.imul, 1) := by decide +kernel
theorem d_X12_part_194 : decode mX12_part.2.2.1 194 = .ok (.iconst 5, 1) := by decide +kernel
theorem d_X12_part_195 : decode mX12_part.2.2.1 195 = .ok (.iadd, 1) := by decide +kernel
theorem d_X12_part_196 : decode mX12_part.2.2.1 196 = .ok (.aload_n 0, 1) := by decide +kernel
theorem d_X12_part_197 : decode mX12_part.2.2.1 197 = .ok (.iconst 0, 1) := by decide +kernel
theorem d_X12_part_198 : decode mX12_part.2.2.1 198 = .ok (.bipush 50, 2) := by decide +kernel
theorem d_X12_part_200 : decode mX12_part.2.2.1 200 = .ok (.invokevirtual 516, 3) := by decide +kernel
theorem d_X12_part_203 : decode mX12_part.2.2.1 203 = .ok (.iastore, 1) := by decide +kernel
theorem d_X12_part_204 : decode mX12_part.2.2.1 204 = .ok (.aload_n 0, 1) := by decide +kernel
theorem d_X12_part_205 : decode mX12_part.2.2.1 205 = .ok (.getfield 36, 3) := by decide +kernel
theorem d_X12_part_208 : decode mX12_part.2.2.1 208 = .ok (.ifCond .ne 16, 3) := by decide +kernel
theorem d_X12_part_224 : decode mX12_part.2.2.1 224 = .ok (.return_, 1) := by decide +kernel
theorem d_X12_part_211 : decode mX12_part.2.2.1 211 = .ok (.aload_n 0, 1) := by decide +kernel
theorem d_X12_part_212 : decode mX12_part.2.2.1 212 = .ok (.getfield 63, 3) := by decide +kernel
theorem d_X12_part_215 : decode mX12_part.2.2.1 215 = .ok (.aload_n 0, 1) := by decide +kernel
theorem d_X12_part_216 : decode mX12_part.2.2.1 216 = .ok (.getfield 124, 3) := by decide +kernel
theorem d_X12_part_219 : decode mX12_part.2.2.1 219 = .ok (.dup2, 1) := by decide +kernel
theorem d_X12_part_220 : decode mX12_part.2.2.1 220 = .ok (.iaload, 1) := by decide +kernel
theorem d_X12_part_221 : decode mX12_part.2.2.1 221 = .ok (.iconst 1, 1) := by decide +kernel
theorem d_X12_part_222 : decode mX12_part.2.2.1 222 = .ok (.iadd, 1) := by decide +kernel
theorem d_X12_part_223 : decode mX12_part.2.2.1 223 = .ok (.iastore, 1) := by decide +kernel
theorem d_X12_part_30 : decode mX12_part.2.2.1 30 = .ok (.return_, 1) := by decide +kernel
theorem ok_X12_part : e_m mX12_part 0 := ⟨tblG_in (inT8 (List.mem_of_getElem? (i := 127) rfl)) rfl, plainFor_of_name (by decide), rfl, ini_12, by decide +kernel, by decide⟩
theorem d_X12_declares_113 : decode mX12_declares.2.2.1 113 = .ok (.goto 39, 3) := by decide +kernel
theorem d_X12_declares_44 : decode mX12_declares.2.2.1 44 = .ok (.aload_n 0, 1) := by decide +kernel
theorem d_X12_declares_45 : decode mX12_declares.2.2.1 45 = .ok (.invokevirtual 396, 3) := by decide +kernel
theorem d_X12_declares_48 : decode mX12_declares.2.2.1 48 = .ok (.aload_n 0, 1) := by decide +kernel
theorem d_X12_declares_49 : decode mX12_declares.2.2.1 49 = .ok (.getfield 54, 3) := by decide +kernel
theorem d_X12_declares_52 : decode mX12_declares.2.2.1 52 = .ok (.aload_n 0, 1) := by decide +kernel
theorem d_X12_declares_53 : decode mX12_declares.2.2.1 53 = .ok (.getfield 124, 3) := by decide +kernel
theorem d_X12_declares_56 : decode mX12_declares.2.2.1 56 = .ok (.aload_n 0, 1) := by decide +kernel
theorem d_X12_declares_57 : decode mX12_declares.2.2.1 57 = .ok (.iconst 1, 1) := by decide +kernel
theorem d_X12_declares_58 : decode mX12_declares.2.2.1 58 = .ok (.bipush 8, 2) := by decide +kernel
theorem d_X12_declares_60 : decode mX12_declares.2.2.1 60 = .ok (.invokevirtual 516, 3) := by decide +kernel
theorem d_X12_declares_63 : decode mX12_declares.2.2.1 63 = .ok (.iastore, 1) := by decide +kernel
theorem d_X12_declares_64 : decode mX12_declares.2.2.1 64 = .ok (.aload_n 0, 1) := by decide +kernel
theorem d_X12_declares_65 : decode mX12_declares.2.2.1 65 = .ok (.getfield 57, 3) := by decide +kernel
theorem d_X12_declares_68 : decode mX12_declares.2.2.1 68 = .ok (.aload_n 0, 1) := by decide +kernel
theorem d_X12_declares_69 : decode mX12_declares.2.2.1 69 = .ok (.getfield 124, 3) := by decide +kernel
theorem d_X12_declares_72 : decode mX12_declares.2.2.1 72 = .ok (.aload_n 0, 1) := by decide +kernel
theorem d_X12_declares_73 : decode mX12_declares.2.2.1 73 = .ok (.iconst 1, 1) := by decide +kernel
theorem d_X12_declares_74 : decode mX12_declares.2.2.1 74 = .ok (.bipush 8, 2) := by decide +kernel
theorem d_X12_declares_76 : decode mX12_declares.2.2.1 76 = .ok (.invokevirtual 516, 3) := by decide +kernel
theorem d_X12_declares_79 : decode mX12_declares.2.2.1 79 = .ok (.iastore, 1) := by decide +kernel
theorem d_X12_declares_80 : decode mX12_declares.2.2.1 80 = .ok (.aload_n 0, 1) := by decide +kernel
theorem d_X12_declares_81 : decode mX12_declares.2.2.1 81 = .ok (.getfield 60, 3) := by decide +kernel
theorem d_X12_declares_84 : decode mX12_declares.2.2.1 84 = .ok (.aload_n 0, 1) := by decide +kernel
theorem d_X12_declares_85 : decode mX12_declares.2.2.1 85 = .ok (.getfield 124, 3) := by decide +kernel
theorem d_X12_declares_88 : decode mX12_declares.2.2.1 88 = .ok (.aload_n 0, 1) := by decide +kernel
theorem d_X12_declares_89 : decode mX12_declares.2.2.1 89 = .ok (.iconst 0, 1) := by decide +kernel
theorem d_X12_declares_90 : decode mX12_declares.2.2.1 90 = .ok (.bipush 20, 2) := by decide +kernel
theorem d_X12_declares_92 : decode mX12_declares.2.2.1 92 = .ok (.invokevirtual 516, 3) := by decide +kernel
theorem d_X12_declares_95 : decode mX12_declares.2.2.1 95 = .ok (.iastore, 1) := by decide +kernel
theorem d_X12_declares_96 : decode mX12_declares.2.2.1 96 = .ok (.goto 56, 3) := by decide +kernel
theorem d_X12_declares_10 : decode mX12_declares.2.2.1 10 = .ok (.aload_n 0, 1) := by decide +kernel
theorem d_X12_declares_11 : decode mX12_declares.2.2.1 11 = .ok (.invokevirtual 396, 3) := by decide +kernel
theorem d_X12_declares_14 : decode mX12_declares.2.2.1 14 = .ok (.aload_n 0, 1) := by decide +kernel
theorem d_X12_declares_15 : decode mX12_declares.2.2.1 15 = .ok (.getfield 51, 3) := by decide +kernel
theorem d_X12_declares_18 : decode mX12_declares.2.2.1 18 = .ok (.aload_n 0, 1) := by decide +kernel
theorem d_X12_declares_19 : decode mX12_declares.2.2.1 19 = .ok (.getfield 124, 3) := by decide +kernel
theorem d_X12_declares_22 : decode mX12_declares.2.2.1 22 = .ok (.aload_n 0, 1) := by decide +kernel
theorem d_X12_declares_23 : decode mX12_declares.2.2.1 23 = .ok (.iconst 0, 1) := by decide +kernel
theorem d_X12_declares_24 : decode mX12_declares.2.2.1 24 = .ok (.sipush 999, 3) := by decide +kernel
theorem d_X12_declares_27 : decode mX12_declares.2.2.1 27 = .ok (.invokevirtual 516, 3) := by decide +kernel
theorem d_X12_declares_30 : decode mX12_declares.2.2.1 30 = .ok (.iastore, 1) := by decide +kernel
theorem d_X12_declares_31 : decode mX12_declares.2.2.1 31 = .ok (.goto 121, 3) := by decide +kernel
theorem d_X12_declares_152 : decode mX12_declares.2.2.1 152 = .ok (.aload_n 0, 1) := by decide +kernel
theorem d_X12_declares_153 : decode mX12_declares.2.2.1 153 = .ok (.bipush 59, 2) := by decide +kernel
theorem d_X12_declares_155 : decode mX12_declares.2.2.1 155 = .ok (.invokevirtual 529, 3) := by decide +kernel
def mX12_must : MD := (12, yX12_must, cX12_must, 2, none)
theorem sel_X12_must : Cond.instanceMethod mX12_must.2.1 ∈ tblG ∧ Cond.selects mX12_must.2.1.cls mX12_must.2.1 mX12_must.2.1 ∈ tblG := ⟨tblG_in (inT8 (List.mem_of_getElem? (i := 190) rfl)) rfl, tblG_in (inP6 (q := (mX12_must.2.1, 121)) (List.mem_of_getElem? (i := 8) rfl)) rfl⟩
theorem s_12_529 : e_siteV 12 529 mX12_must 12 := ⟨tblG_in (inT8 (List.mem_of_getElem? (i := 188) rfl)) rfl, sel_X12_must.1, sel_X12_must.2, rfl⟩
theorem d_X12_must_0 : decode mX12_must.2.2.1 0 = .ok (.aload_n 0, 1) := by decide +kernel
theorem d_X12_must_1 : decode mX12_must.2.2.1 1 = .ok (.iload_n 1, 1) := by decide +kernel
theorem d_X12_must_2 : decode mX12_must.2.2.1 2 = .ok (.invokevirtual 393, 3) := by decide +kernel
def mX12_isSign : MD := (12, yX12_isSign, cX12_isSign, 2, some .boolean)
theorem sel_X12_isSign : Cond.instanceMethod mX12_isSign.2.1 ∈ tblG ∧ Cond.selects mX12_isSign.2.1.cls mX12_isSign.2.1 mX12_isSign.2.1 ∈ tblG := ⟨tblG_in (inT8 (List.mem_of_getElem? (i := 194) rfl)) rfl, tblG_in (inP6 (q := (mX12_isSign.2.1, 121)) (List.mem_of_getElem? (i := 9) rfl)) rfl⟩
theorem s_12_393 : e_siteV 12 393 mX12_isSign 12 := ⟨tblG_in (inT8 (List.mem_of_getElem? (i := 192) rfl)) rfl, sel_X12_isSign.1, sel_X12_isSign.2, rfl⟩
theorem d_X12_isSign_0 : decode mX12_isSign.2.2.1 0 = .ok (.aload_n 0, 1) := by decide +kernel
theorem d_X12_isSign_1 : decode mX12_isSign.2.2.1 1 = .ok (.getfield 20, 3) := by decide +kernel
theorem d_X12_isSign_4 : decode mX12_isSign.2.2.1 4 = .ok (.iconst 3, 1) := by decide +kernel
theorem d_X12_isSign_5 : decode mX12_isSign.2.2.1 5 = .ok (.if_icmp .ne 15, 3) := by decide +kernel
theorem d_X12_isSign_20 : decode mX12_isSign.2.2.1 20 = .ok (.iconst 0, 1) := by decide +kernel
theorem d_X12_isSign_21 : decode mX12_isSign.2.2.1 21 = .ok (.ireturn, 1) := by decide +kernel
theorem d_X12_isSign_8 : decode mX12_isSign.2.2.1 8 = .ok (.aload_n 0, 1) := by decide +kernel
theorem d_X12_isSign_9 : decode mX12_isSign.2.2.1 9 = .ok (.getfield 29, 3) := by decide +kernel
theorem d_X12_isSign_12 : decode mX12_isSign.2.2.1 12 = .ok (.iload_n 1, 1) := by decide +kernel
theorem d_X12_isSign_13 : decode mX12_isSign.2.2.1 13 = .ok (.if_icmp .ne 7, 3) := by decide +kernel
theorem d_X12_isSign_16 : decode mX12_isSign.2.2.1 16 = .ok (.iconst 1, 1) := by decide +kernel
theorem d_X12_isSign_17 : decode mX12_isSign.2.2.1 17 = .ok (.goto 4, 3) := by decide +kernel
theorem ok_X12_isSign : e_m mX12_isSign 1 := ⟨tblG_in (inT8 (List.mem_of_getElem? (i := 195) rfl)) rfl, plainFor_of_name (by decide), rfl, ini_12, by decide +kernel, by decide⟩
theorem d_X12_must_5 : decode mX12_must.2.2.1 5 = .ok (.ifCond .ne 12, 3) := by decide +kernel
theorem d_X12_must_8 : decode mX12_must.2.2.1 8 = .ok (.aload_n 0, 1) := by decide +kernel
theorem d_X12_must_9 : decode mX12_must.2.2.1 9 = .ok (.iconst 1, 1) := by decide +kernel
theorem d_X12_must_10 : decode mX12_must.2.2.1 10 = .ok (.aload_n 0, 1) := by decide +kernel
theorem d_X12_must_11 : decode mX12_must.2.2.1 11 = .ok (.getfield 23, 3) := by decide +kernel
theorem d_X12_must_14 : decode mX12_must.2.2.1 14 = .ok (.invokevirtual 389, 3) := by decide +kernel
theorem d_X12_must_17 : decode mX12_must.2.2.1 17 = .ok (.aload_n 0, 1) := by decide +kernel
theorem d_X12_must_18 : decode mX12_must.2.2.1 18 = .ok (.getfield 36, 3) := by decide +kernel
theorem d_X12_must_21 : decode mX12_must.2.2.1 21 = .ok (.ifCond .ne 7, 3) := by decide +kernel
theorem d_X12_must_28 : decode mX12_must.2.2.1 28 = .ok (.return_, 1) := by decide +kernel
theorem d_X12_must_24 : decode mX12_must.2.2.1 24 = .ok (.aload_n 0, 1) := by decide +kernel
theorem d_X12_must_25 : decode mX12_must.2.2.1 25 = .ok (.invokevirtual 396, 3) := by decide +kernel
theorem ok_X12_must : e_m mX12_must 1 := ⟨tblG_in (inT8 (List.mem_of_getElem? (i := 191) rfl)) rfl, plainFor_of_name (by decide), rfl, ini_12, by decide +kernel, by decide⟩
theorem d_X12_declares_158 : decode mX12_declares.2.2.1 158 = .ok (.iconst 1, 1) := by decide +kernel
theorem d_X12_declares_159 : decode mX12_declares.2.2.1 159 = .ok (.ireturn, 1) := by decide +kernel
theorem ok_X12_declares : e_m mX12_declares 0 := ⟨tblG_in (inT8 (List.mem_of_getElem? (i := 109) rfl)) rfl, plainFor_of_name (by decide), rfl, ini_12, by decide +kernel, by decide⟩
theorem d_X12_text_171 : decode mX12_text.2.2.1 171 = .ok (.ifCond .eq 7, 3) := by decide +kernel
theorem d_X12_text_174 : decode mX12_text.2.2.1 174 = .ok (.iconst 1, 1) := by decide +kernel
theorem d_X12_text_175 : decode mX12_text.2.2.1 175 = .ok (.goto 4, 3) := by decide +kernel
theorem d_X12_text_183 : decode mX12_text.2.2.1 183 = .ok (.aload_n 0, 1) := by decide +kernel
theorem d_X12_text_184 : decode mX12_text.2.2.1 184 = .ok (.getfield 36, 3) := by decide +kernel
theorem d_X12_text_187 : decode mX12_text.2.2.1 187 = .ok (.ifCond .ne 47, 3) := by decide +kernel
theorem d_X12_text_234 : decode mX12_text.2.2.1 234 = .ok (.aload_n 0, 1) := by decide +kernel
theorem d_X12_text_235 : decode mX12_text.2.2.1 235 = .ok (.aload_n 0, 1) := by decide +kernel
theorem d_X12_text_236 : decode mX12_text.2.2.1 236 = .ok (.getfield 36, 3) := by decide +kernel
theorem d_X12_text_239 : decode mX12_text.2.2.1 239 = .ok (.putfield 42, 3) := by decide +kernel
theorem d_X12_text_242 : decode mX12_text.2.2.1 242 = .ok (.aload_n 0, 1) := by decide +kernel
theorem d_X12_text_243 : decode mX12_text.2.2.1 243 = .ok (.aload_n 0, 1) := by decide +kernel
theorem d_X12_text_244 : decode mX12_text.2.2.1 244 = .ok (.getfield 39, 3) := by decide +kernel
theorem d_X12_text_247 : decode mX12_text.2.2.1 247 = .ok (.putfield 45, 3) := by decide +kernel
theorem d_X12_text_250 : decode mX12_text.2.2.1 250 = .ok (.aload_n 0, 1) := by decide +kernel
theorem d_X12_text_251 : decode mX12_text.2.2.1 251 = .ok (.getfield 36, 3) := by decide +kernel
theorem d_X12_text_254 : decode mX12_text.2.2.1 254 = .ok (.ifCond .le 5, 3) := by decide +kernel
theorem d_X12_text_257 : decode mX12_text.2.2.1 257 = .ok (.iconst (-1), 1) := by decide +kernel
theorem d_X12_text_258 : decode mX12_text.2.2.1 258 = .ok (.ireturn, 1) := by decide +kernel
theorem d_X12_text_178 : decode mX12_text.2.2.1 178 = .ok (.iconst 0, 1) := by decide +kernel
theorem d_X12_text_179 : decode mX12_text.2.2.1 179 = .ok (.istore_n 1, 1) := by decide +kernel
theorem d_X12_text_180 : decode mX12_text.2.2.1 180 = .ok (.goto (-31), 3) := by decide +kernel
theorem d_X12_text_190 : decode mX12_text.2.2.1 190 = .ok (.aload_n 0, 1) := by decide +kernel
theorem d_X12_text_191 : decode mX12_text.2.2.1 191 = .ok (.getfield 20, 3) := by decide +kernel
theorem d_X12_text_194 : decode mX12_text.2.2.1 194 = .ok (.ifCond .ne 10, 3) := by decide +kernel
theorem d_X12_text_197 : decode mX12_text.2.2.1 197 = .ok (.aload_n 0, 1) := by decide +kernel
theorem d_X12_text_198 : decode mX12_text.2.2.1 198 = .ok (.getfield 165, 3) := by decide +kernel
theorem d_X12_text_201 : decode mX12_text.2.2.1 201 = .ok (.ifCond .le 33, 3) := by decide +kernel
theorem d_X12_text_259 : decode mX12_text.2.2.1 259 = .ok (.aload_n 0, 1) := by decide +kernel
