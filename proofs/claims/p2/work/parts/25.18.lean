theorem d_X5_part_113 : decode mX5_part.2.2.1 113 = .ok (.ifCond .ge 7, 3) := by decide +kernel
theorem d_X5_part_120 : decode mX5_part.2.2.1 120 = .ok (.aload_n 0, 1) := by decide +kernel
theorem d_X5_part_121 : decode mX5_part.2.2.1 121 = .ok (.bipush 18, 2) := by decide +kernel
theorem d_X5_part_123 : decode mX5_part.2.2.1 123 = .ok (.bipush 50, 2) := by decide +kernel
theorem d_X5_part_125 : decode mX5_part.2.2.1 125 = .ok (.invokevirtual 136, 3) := by decide +kernel
theorem d_X5_part_116 : decode mX5_part.2.2.1 116 = .ok (.iconst (-1), 1) := by decide +kernel
theorem d_X5_part_117 : decode mX5_part.2.2.1 117 = .ok (.goto 11, 3) := by decide +kernel
theorem d_X5_part_128 : decode mX5_part.2.2.1 128 = .ok (.istore 7, 2) := by decide +kernel
theorem d_X5_part_130 : decode mX5_part.2.2.1 130 = .ok (.iload 7, 2) := by decide +kernel
theorem d_X5_part_132 : decode mX5_part.2.2.1 132 = .ok (.ifCond .lt 12, 3) := by decide +kernel
theorem d_X5_part_144 : decode mX5_part.2.2.1 144 = .ok (.iconst 0, 1) := by decide +kernel
theorem d_X5_part_145 : decode mX5_part.2.2.1 145 = .ok (.ireturn, 1) := by decide +kernel
theorem d_X5_part_135 : decode mX5_part.2.2.1 135 = .ok (.aload_n 0, 1) := by decide +kernel
theorem d_X5_part_136 : decode mX5_part.2.2.1 136 = .ok (.bipush 59, 2) := by decide +kernel
theorem d_X5_part_138 : decode mX5_part.2.2.1 138 = .ok (.invokevirtual 81, 3) := by decide +kernel
theorem d_X5_part_141 : decode mX5_part.2.2.1 141 = .ok (.ifCond .ne 5, 3) := by decide +kernel
theorem d_X5_part_146 : decode mX5_part.2.2.1 146 = .ok (.aload_n 0, 1) := by decide +kernel
theorem d_X5_part_147 : decode mX5_part.2.2.1 147 = .ok (.getfield 22, 3) := by decide +kernel
theorem d_X5_part_150 : decode mX5_part.2.2.1 150 = .ok (.getfield 139, 3) := by decide +kernel
theorem f_5_139 : e_fld 5 139 3 5 12 2 true := ⟨RX3, TX3, 5, rfl, rfl, by decide, rfl, rfl, rfl, iX3, tblG_in (inT1 (List.mem_of_getElem? (i := 183) rfl)) rfl, tyX3_ok, nmX3⟩
theorem d_X5_part_153 : decode mX5_part.2.2.1 153 = .ok (.iload_n 1, 1) := by decide +kernel
theorem d_X5_part_154 : decode mX5_part.2.2.1 154 = .ok (.iconst 4, 1) := by decide +kernel
theorem d_X5_part_155 : decode mX5_part.2.2.1 155 = .ok (.imul, 1) := by decide +kernel
theorem d_X5_part_156 : decode mX5_part.2.2.1 156 = .ok (.iconst 0, 1) := by decide +kernel
theorem d_X5_part_157 : decode mX5_part.2.2.1 157 = .ok (.iadd, 1) := by decide +kernel
theorem d_X5_part_158 : decode mX5_part.2.2.1 158 = .ok (.iload_n 2, 1) := by decide +kernel
theorem d_X5_part_159 : decode mX5_part.2.2.1 159 = .ok (.iastore, 1) := by decide +kernel
theorem d_X5_part_160 : decode mX5_part.2.2.1 160 = .ok (.aload_n 0, 1) := by decide +kernel
theorem d_X5_part_161 : decode mX5_part.2.2.1 161 = .ok (.getfield 22, 3) := by decide +kernel
theorem d_X5_part_164 : decode mX5_part.2.2.1 164 = .ok (.getfield 139, 3) := by decide +kernel
theorem d_X5_part_167 : decode mX5_part.2.2.1 167 = .ok (.iload_n 1, 1) := by decide +kernel
theorem d_X5_part_168 : decode mX5_part.2.2.1 168 = .ok (.iconst 4, 1) := by decide +kernel
theorem d_X5_part_169 : decode mX5_part.2.2.1 169 = .ok (.imul, 1) := by decide +kernel
theorem d_X5_part_170 : decode mX5_part.2.2.1 170 = .ok (.iconst 1, 1) := by decide +kernel
theorem d_X5_part_171 : decode mX5_part.2.2.1 171 = .ok (.iadd, 1) := by decide +kernel
theorem d_X5_part_172 : decode mX5_part.2.2.1 172 = .ok (.iload 4, 2) := by decide +kernel
theorem d_X5_part_174 : decode mX5_part.2.2.1 174 = .ok (.iastore, 1) := by decide +kernel
theorem d_X5_part_175 : decode mX5_part.2.2.1 175 = .ok (.aload_n 0, 1) := by decide +kernel
theorem d_X5_part_176 : decode mX5_part.2.2.1 176 = .ok (.getfield 22, 3) := by decide +kernel
theorem d_X5_part_179 : decode mX5_part.2.2.1 179 = .ok (.getfield 139, 3) := by decide +kernel
theorem d_X5_part_182 : decode mX5_part.2.2.1 182 = .ok (.iload_n 1, 1) := by decide +kernel
theorem d_X5_part_183 : decode mX5_part.2.2.1 183 = .ok (.iconst 4, 1) := by decide +kernel
theorem d_X5_part_184 : decode mX5_part.2.2.1 184 = .ok (.imul, 1) := by decide +kernel
theorem d_X5_part_185 : decode mX5_part.2.2.1 185 = .ok (.iconst 2, 1) := by decide +kernel
theorem d_X5_part_186 : decode mX5_part.2.2.1 186 = .ok (.iadd, 1) := by decide +kernel
theorem d_X5_part_187 : decode mX5_part.2.2.1 187 = .ok (.iload 5, 2) := by decide +kernel
theorem d_X5_part_189 : decode mX5_part.2.2.1 189 = .ok (.iastore, 1) := by decide +kernel
theorem d_X5_part_190 : decode mX5_part.2.2.1 190 = .ok (.aload_n 0, 1) := by decide +kernel
theorem d_X5_part_191 : decode mX5_part.2.2.1 191 = .ok (.getfield 22, 3) := by decide +kernel
theorem d_X5_part_194 : decode mX5_part.2.2.1 194 = .ok (.getfield 139, 3) := by decide +kernel
theorem d_X5_part_197 : decode mX5_part.2.2.1 197 = .ok (.iload_n 1, 1) := by decide +kernel
theorem d_X5_part_198 : decode mX5_part.2.2.1 198 = .ok (.iconst 4, 1) := by decide +kernel
theorem d_X5_part_199 : decode mX5_part.2.2.1 199 = .ok (.imul, 1) := by decide +kernel
theorem d_X5_part_200 : decode mX5_part.2.2.1 200 = .ok (.iconst 3, 1) := by decide +kernel
theorem d_X5_part_201 : decode mX5_part.2.2.1 201 = .ok (.iadd, 1) := by decide +kernel
theorem d_X5_part_202 : decode mX5_part.2.2.1 202 = .ok (.iload 6, 2) := by decide +kernel
theorem d_X5_part_204 : decode mX5_part.2.2.1 204 = .ok (.iastore, 1) := by decide +kernel
theorem d_X5_part_205 : decode mX5_part.2.2.1 205 = .ok (.aload_n 0, 1) := by decide +kernel
theorem d_X5_part_206 : decode mX5_part.2.2.1 206 = .ok (.getfield 22, 3) := by decide +kernel
theorem d_X5_part_209 : decode mX5_part.2.2.1 209 = .ok (.getfield 142, 3) := by decide +kernel
theorem f_5_142 : e_fld 5 142 3 6 12 2 true := ⟨RX3, TX3, 6, rfl, rfl, by decide, rfl, rfl, rfl, iX3, tblG_in (inT1 (List.mem_of_getElem? (i := 187) rfl)) rfl, tyX3_ok, nmX3⟩
theorem d_X5_part_212 : decode mX5_part.2.2.1 212 = .ok (.iload_n 1, 1) := by decide +kernel
theorem d_X5_part_213 : decode mX5_part.2.2.1 213 = .ok (.iload_n 3, 1) := by decide +kernel
theorem d_X5_part_214 : decode mX5_part.2.2.1 214 = .ok (.iastore, 1) := by decide +kernel
theorem d_X5_part_215 : decode mX5_part.2.2.1 215 = .ok (.aload_n 0, 1) := by decide +kernel
theorem d_X5_part_216 : decode mX5_part.2.2.1 216 = .ok (.getfield 22, 3) := by decide +kernel
theorem d_X5_part_219 : decode mX5_part.2.2.1 219 = .ok (.getfield 145, 3) := by decide +kernel
theorem f_5_145 : e_fld 5 145 3 7 12 2 true := ⟨RX3, TX3, 7, rfl, rfl, by decide, rfl, rfl, rfl, iX3, tblG_in (inT1 (List.mem_of_getElem? (i := 192) rfl)) rfl, tyX3_ok, nmX3⟩
theorem d_X5_part_222 : decode mX5_part.2.2.1 222 = .ok (.iload_n 1, 1) := by decide +kernel
theorem d_X5_part_223 : decode mX5_part.2.2.1 223 = .ok (.iload 7, 2) := by decide +kernel
theorem d_X5_part_225 : decode mX5_part.2.2.1 225 = .ok (.iastore, 1) := by decide +kernel
theorem d_X5_part_226 : decode mX5_part.2.2.1 226 = .ok (.iconst 1, 1) := by decide +kernel
theorem d_X5_part_227 : decode mX5_part.2.2.1 227 = .ok (.ireturn, 1) := by decide +kernel
theorem ok_X5_part : e_m mX5_part 0 := ⟨tblG_in (inT4 (List.mem_of_getElem? (i := 57) rfl)) rfl, plainFor_of_name (by decide), rfl, ini_5, by decide +kernel, by decide⟩
theorem d_X5_declaration_46 : decode mX5_declaration.2.2.1 46 = .ok (.ireturn, 1) := by decide +kernel
theorem d_X5_declaration_37 : decode mX5_declaration.2.2.1 37 = .ok (.aload_n 0, 1) := by decide +kernel
theorem d_X5_declaration_38 : decode mX5_declaration.2.2.1 38 = .ok (.invokevirtual 103, 3) := by decide +kernel
def mX5_cache : MD := (5, yX5_cache, cX5_cache, 4, some .boolean)
theorem sel_X5_cache : Cond.instanceMethod mX5_cache.2.1 ∈ tblG ∧ Cond.selects mX5_cache.2.1.cls mX5_cache.2.1 mX5_cache.2.1 ∈ tblG := ⟨tblG_in (inT4 (List.mem_of_getElem? (i := 52) rfl)) rfl, tblG_in (inP2 (q := (mX5_cache.2.1, 7)) (List.mem_of_getElem? (i := 0) rfl)) rfl⟩
theorem s_5_103 : e_siteV 5 103 mX5_cache 5 := ⟨tblG_in (inT4 (List.mem_of_getElem? (i := 50) rfl)) rfl, sel_X5_cache.1, sel_X5_cache.2, rfl⟩
theorem d_X5_cache_0 : decode mX5_cache.2.2.1 0 = .ok (.aload_n 0, 1) := by decide +kernel
theorem d_X5_cache_1 : decode mX5_cache.2.2.1 1 = .ok (.invokevirtual 74, 3) := by decide +kernel
theorem d_X5_cache_4 : decode mX5_cache.2.2.1 4 = .ok (.pop, 1) := by decide +kernel
theorem d_X5_cache_5 : decode mX5_cache.2.2.1 5 = .ok (.aload_n 0, 1) := by decide +kernel
theorem d_X5_cache_6 : decode mX5_cache.2.2.1 6 = .ok (.iconst 1, 1) := by decide +kernel
theorem d_X5_cache_7 : decode mX5_cache.2.2.1 7 = .ok (.bipush 8, 2) := by decide +kernel
theorem d_X5_cache_9 : decode mX5_cache.2.2.1 9 = .ok (.invokevirtual 87, 3) := by decide +kernel
theorem d_X5_cache_12 : decode mX5_cache.2.2.1 12 = .ok (.istore_n 1, 1) := by decide +kernel
theorem d_X5_cache_13 : decode mX5_cache.2.2.1 13 = .ok (.iload_n 1, 1) := by decide +kernel
theorem d_X5_cache_14 : decode mX5_cache.2.2.1 14 = .ok (.ifCond .ge 7, 3) := by decide +kernel
theorem d_X5_cache_21 : decode mX5_cache.2.2.1 21 = .ok (.aload_n 0, 1) := by decide +kernel
theorem d_X5_cache_22 : decode mX5_cache.2.2.1 22 = .ok (.iconst 1, 1) := by decide +kernel
theorem d_X5_cache_23 : decode mX5_cache.2.2.1 23 = .ok (.bipush 8, 2) := by decide +kernel
theorem d_X5_cache_25 : decode mX5_cache.2.2.1 25 = .ok (.invokevirtual 87, 3) := by decide +kernel
theorem d_X5_cache_17 : decode mX5_cache.2.2.1 17 = .ok (.iconst (-1), 1) := by decide +kernel
theorem d_X5_cache_18 : decode mX5_cache.2.2.1 18 = .ok (.goto 10, 3) := by decide +kernel
theorem d_X5_cache_28 : decode mX5_cache.2.2.1 28 = .ok (.istore_n 2, 1) := by decide +kernel
theorem d_X5_cache_29 : decode mX5_cache.2.2.1 29 = .ok (.iload_n 2, 1) := by decide +kernel
theorem d_X5_cache_30 : decode mX5_cache.2.2.1 30 = .ok (.ifCond .ge 7, 3) := by decide +kernel
theorem d_X5_cache_37 : decode mX5_cache.2.2.1 37 = .ok (.aload_n 0, 1) := by decide +kernel
theorem d_X5_cache_38 : decode mX5_cache.2.2.1 38 = .ok (.iconst 0, 1) := by decide +kernel
theorem d_X5_cache_39 : decode mX5_cache.2.2.1 39 = .ok (.bipush 20, 2) := by decide +kernel
theorem d_X5_cache_41 : decode mX5_cache.2.2.1 41 = .ok (.invokevirtual 87, 3) := by decide +kernel
theorem d_X5_cache_33 : decode mX5_cache.2.2.1 33 = .ok (.iconst (-1), 1) := by decide +kernel
theorem d_X5_cache_34 : decode mX5_cache.2.2.1 34 = .ok (.goto 10, 3) := by decide +kernel
theorem d_X5_cache_44 : decode mX5_cache.2.2.1 44 = .ok (.istore_n 3, 1) := by decide +kernel
theorem d_X5_cache_45 : decode mX5_cache.2.2.1 45 = .ok (.aload_n 0, 1) := by decide +kernel
theorem d_X5_cache_46 : decode mX5_cache.2.2.1 46 = .ok (.getfield 22, 3) := by decide +kernel
theorem d_X5_cache_49 : decode mX5_cache.2.2.1 49 = .ok (.iload_n 1, 1) := by decide +kernel
theorem d_X5_cache_50 : decode mX5_cache.2.2.1 50 = .ok (.putfield 117, 3) := by decide +kernel
theorem f_5_117 : e_fld 5 117 3 1 12 0 false := ⟨RX3, TX3, 1, rfl, rfl, by decide, rfl, rfl, rfl, iX3, tblG_in (inT1 (List.mem_of_getElem? (i := 165) rfl)) rfl, tyX3_ok, nmX3⟩
theorem d_X5_cache_53 : decode mX5_cache.2.2.1 53 = .ok (.aload_n 0, 1) := by decide +kernel
theorem d_X5_cache_54 : decode mX5_cache.2.2.1 54 = .ok (.getfield 22, 3) := by decide +kernel
theorem d_X5_cache_57 : decode mX5_cache.2.2.1 57 = .ok (.iload_n 2, 1) := by decide +kernel
theorem d_X5_cache_58 : decode mX5_cache.2.2.1 58 = .ok (.putfield 120, 3) := by decide +kernel
theorem f_5_120 : e_fld 5 120 3 2 12 0 false := ⟨RX3, TX3, 2, rfl, rfl, by decide, rfl, rfl, rfl, iX3, tblG_in (inT1 (List.mem_of_getElem? (i := 168) rfl)) rfl, tyX3_ok, nmX3⟩
theorem d_X5_cache_61 : decode mX5_cache.2.2.1 61 = .ok (.aload_n 0, 1) := by decide +kernel
theorem d_X5_cache_62 : decode mX5_cache.2.2.1 62 = .ok (.getfield 22, 3) := by decide +kernel
theorem d_X5_cache_65 : decode mX5_cache.2.2.1 65 = .ok (.iload_n 3, 1) := by decide +kernel
theorem d_X5_cache_66 : decode mX5_cache.2.2.1 66 = .ok (.putfield 123, 3) := by decide +kernel
theorem f_5_123 : e_fld 5 123 3 3 12 0 false := ⟨RX3, TX3, 3, rfl, rfl, by decide, rfl, rfl, rfl, iX3, tblG_in (inT1 (List.mem_of_getElem? (i := 171) rfl)) rfl, tyX3_ok, nmX3⟩
theorem d_X5_cache_69 : decode mX5_cache.2.2.1 69 = .ok (.iload_n 3, 1) := by decide +kernel
theorem d_X5_cache_70 : decode mX5_cache.2.2.1 70 = .ok (.ifCond .lt 16, 3) := by decide +kernel
theorem d_X5_cache_86 : decode mX5_cache.2.2.1 86 = .ok (.iconst 0, 1) := by decide +kernel
theorem d_X5_cache_87 : decode mX5_cache.2.2.1 87 = .ok (.ireturn, 1) := by decide +kernel
theorem d_X5_cache_73 : decode mX5_cache.2.2.1 73 = .ok (.aload_n 0, 1) := by decide +kernel
theorem d_X5_cache_74 : decode mX5_cache.2.2.1 74 = .ok (.bipush 59, 2) := by decide +kernel
theorem d_X5_cache_76 : decode mX5_cache.2.2.1 76 = .ok (.invokevirtual 81, 3) := by decide +kernel
theorem d_X5_cache_79 : decode mX5_cache.2.2.1 79 = .ok (.ifCond .eq 7, 3) := by decide +kernel
theorem d_X5_cache_82 : decode mX5_cache.2.2.1 82 = .ok (.iconst 1, 1) := by decide +kernel
theorem d_X5_cache_83 : decode mX5_cache.2.2.1 83 = .ok (.goto 4, 3) := by decide +kernel
theorem ok_X5_cache : e_m mX5_cache 0 := ⟨tblG_in (inT4 (List.mem_of_getElem? (i := 53) rfl)) rfl, plainFor_of_name (by decide), rfl, ini_5, by decide +kernel, by decide⟩
theorem d_X5_declaration_41 : decode mX5_declaration.2.2.1 41 = .ok (.ireturn, 1) := by decide +kernel
theorem d_X5_declaration_32 : decode mX5_declaration.2.2.1 32 = .ok (.aload_n 0, 1) := by decide +kernel
theorem d_X5_declaration_33 : decode mX5_declaration.2.2.1 33 = .ok (.invokevirtual 100, 3) := by decide +kernel
def mX5_heart : MD := (5, yX5_heart, cX5_heart, 2, some .boolean)
theorem sel_X5_heart : Cond.instanceMethod mX5_heart.2.1 ∈ tblG ∧ Cond.selects mX5_heart.2.1.cls mX5_heart.2.1 mX5_heart.2.1 ∈ tblG := ⟨tblG_in (inT4 (List.mem_of_getElem? (i := 28) rfl)) rfl, tblG_in (inP1 (q := (mX5_heart.2.1, 7)) (List.mem_of_getElem? (i := 10) rfl)) rfl⟩
theorem s_5_100 : e_siteV 5 100 mX5_heart 5 := ⟨tblG_in (inT4 (List.mem_of_getElem? (i := 26) rfl)) rfl, sel_X5_heart.1, sel_X5_heart.2, rfl⟩
theorem d_X5_heart_0 : decode mX5_heart.2.2.1 0 = .ok (.aload_n 0, 1) := by decide +kernel
theorem d_X5_heart_1 : decode mX5_heart.2.2.1 1 = .ok (.invokevirtual 74, 3) := by decide +kernel
theorem d_X5_heart_4 : decode mX5_heart.2.2.1 4 = .ok (.pop, 1) := by decide +kernel
theorem d_X5_heart_5 : decode mX5_heart.2.2.1 5 = .ok (.aload_n 0, 1) := by decide +kernel
theorem d_X5_heart_6 : decode mX5_heart.2.2.1 6 = .ok (.iconst 0, 1) := by decide +kernel
theorem d_X5_heart_7 : decode mX5_heart.2.2.1 7 = .ok (.sipush 999, 3) := by decide +kernel
theorem d_X5_heart_10 : decode mX5_heart.2.2.1 10 = .ok (.invokevirtual 87, 3) := by decide +kernel
theorem d_X5_heart_13 : decode mX5_heart.2.2.1 13 = .ok (.istore_n 1, 1) := by decide +kernel
theorem d_X5_heart_14 : decode mX5_heart.2.2.1 14 = .ok (.aload_n 0, 1) := by decide +kernel
theorem d_X5_heart_15 : decode mX5_heart.2.2.1 15 = .ok (.getfield 22, 3) := by decide +kernel
theorem d_X5_heart_18 : decode mX5_heart.2.2.1 18 = .ok (.iload_n 1, 1) := by decide +kernel
theorem d_X5_heart_19 : decode mX5_heart.2.2.1 19 = .ok (.putfield 115, 3) := by decide +kernel
theorem f_5_115 : e_fld 5 115 3 0 12 0 false := ⟨RX3, TX3, 0, rfl, rfl, by decide, rfl, rfl, rfl, iX3, tblG_in (inT1 (List.mem_of_getElem? (i := 162) rfl)) rfl, tyX3_ok, nmX3⟩
theorem d_X5_heart_22 : decode mX5_heart.2.2.1 22 = .ok (.iload_n 1, 1) := by decide +kernel
theorem d_X5_heart_23 : decode mX5_heart.2.2.1 23 = .ok (.ifCond .lt 16, 3) := by decide +kernel
theorem d_X5_heart_39 : decode mX5_heart.2.2.1 39 = .ok (.iconst 0, 1) := by decide +kernel
theorem d_X5_heart_40 : decode mX5_heart.2.2.1 40 = .ok (.ireturn, 1) := by decide +kernel
theorem d_X5_heart_26 : decode mX5_heart.2.2.1 26 = .ok (.aload_n 0, 1) := by decide +kernel
theorem d_X5_heart_27 : decode mX5_heart.2.2.1 27 = .ok (.bipush 59, 2) := by decide +kernel
theorem d_X5_heart_29 : decode mX5_heart.2.2.1 29 = .ok (.invokevirtual 81, 3) := by decide +kernel
theorem d_X5_heart_32 : decode mX5_heart.2.2.1 32 = .ok (.ifCond .eq 7, 3) := by decide +kernel
theorem d_X5_heart_35 : decode mX5_heart.2.2.1 35 = .ok (.iconst 1, 1) := by decide +kernel
theorem d_X5_heart_36 : decode mX5_heart.2.2.1 36 = .ok (.goto 4, 3) := by decide +kernel
theorem ok_X5_heart : e_m mX5_heart 0 := ⟨tblG_in (inT4 (List.mem_of_getElem? (i := 29) rfl)) rfl, plainFor_of_name (by decide), rfl, ini_5, by decide +kernel, by decide⟩
theorem d_X5_declaration_36 : decode mX5_declaration.2.2.1 36 = .ok (.ireturn, 1) := by decide +kernel
theorem ok_X5_declaration : e_m mX5_declaration 1 := ⟨tblG_in (inT4 (List.mem_of_getElem? (i := 25) rfl)) rfl, plainFor_of_name (by decide), rfl, ini_5, by decide +kernel, by decide⟩
theorem d_X5_declarations_63 : decode mX5_declarations.2.2.1 63 = .ok (.istore_n 1, 1) := by decide +kernel
theorem d_X5_declarations_64 : decode mX5_declarations.2.2.1 64 = .ok (.iinc 2 1, 3) := by decide +kernel
theorem d_X5_declarations_67 : decode mX5_declarations.2.2.1 67 = .ok (.goto (-63), 3) := by decide +kernel
theorem ok_X5_declarations : e_m mX5_declarations 0 := ⟨tblG_in (inT4 (List.mem_of_getElem? (i := 21) rfl)) rfl, plainFor_of_name (by decide), rfl, ini_5, by decide +kernel, by decide⟩
theorem d_X5_read_49 : decode mX5_read.2.2.1 49 = .ok (.ifCond .eq 13, 3) := by decide +kernel
theorem d_X5_read_62 : decode mX5_read.2.2.1 62 = .ok (.iconst 0, 1) := by decide +kernel
theorem d_X5_read_63 : decode mX5_read.2.2.1 63 = .ok (.ireturn, 1) := by decide +kernel
theorem d_X5_read_52 : decode mX5_read.2.2.1 52 = .ok (.aload_n 0, 1) := by decide +kernel
theorem d_X5_read_53 : decode mX5_read.2.2.1 53 = .ok (.iconst (-1), 1) := by decide +kernel
theorem d_X5_read_54 : decode mX5_read.2.2.1 54 = .ok (.invokevirtual 46, 3) := by decide +kernel
def mX5_orders : MD := (5, yX5_orders, cX5_orders, 6, some .int)
theorem sel_X5_orders : Cond.instanceMethod mX5_orders.2.1 ∈ tblG ∧ Cond.selects mX5_orders.2.1.cls mX5_orders.2.1 mX5_orders.2.1 ∈ tblG := ⟨tblG_in (inT4 (List.mem_of_getElem? (i := 96) rfl)) rfl, tblG_in (inP2 (q := (mX5_orders.2.1, 7)) (List.mem_of_getElem? (i := 7) rfl)) rfl⟩
theorem s_5_46 : e_siteV 5 46 mX5_orders 5 := ⟨tblG_in (inT4 (List.mem_of_getElem? (i := 94) rfl)) rfl, sel_X5_orders.1, sel_X5_orders.2, rfl⟩
theorem d_X5_orders_0 : decode mX5_orders.2.2.1 0 = .ok (.iconst (-1), 1) := by decide +kernel
theorem d_X5_orders_1 : decode mX5_orders.2.2.1 1 = .ok (.istore_n 2, 1) := by decide +kernel
theorem d_X5_orders_2 : decode mX5_orders.2.2.1 2 = .ok (.iconst (-1), 1) := by decide +kernel
theorem d_X5_orders_3 : decode mX5_orders.2.2.1 3 = .ok (.istore_n 3, 1) := by decide +kernel
theorem d_X5_orders_4 : decode mX5_orders.2.2.1 4 = .ok (.iconst 0, 1) := by decide +kernel
theorem d_X5_orders_5 : decode mX5_orders.2.2.1 5 = .ok (.istore 4, 2) := by decide +kernel
theorem d_X5_orders_7 : decode mX5_orders.2.2.1 7 = .ok (.iload 4, 2) := by decide +kernel
theorem d_X5_orders_9 : decode mX5_orders.2.2.1 9 = .ok (.bipush 60, 2) := by decide +kernel
theorem d_X5_orders_11 : decode mX5_orders.2.2.1 11 = .ok (.if_icmp .gt 100, 3) := by decide +kernel
theorem d_X5_orders_14 : decode mX5_orders.2.2.1 14 = .ok (.aload_n 0, 1) := by decide +kernel
theorem d_X5_orders_15 : decode mX5_orders.2.2.1 15 = .ok (.invokevirtual 154, 3) := by decide +kernel
def mX5_isOrder : MD := (5, yX5_isOrder, cX5_isOrder, 2, some .boolean)
theorem sel_X5_isOrder : Cond.instanceMethod mX5_isOrder.2.1 ∈ tblG ∧ Cond.selects mX5_isOrder.2.1.cls mX5_isOrder.2.1 mX5_isOrder.2.1 ∈ tblG := ⟨tblG_in (inT4 (List.mem_of_getElem? (i := 100) rfl)) rfl, tblG_in (inP2 (q := (mX5_isOrder.2.1, 7)) (List.mem_of_getElem? (i := 8) rfl)) rfl⟩
theorem s_5_154 : e_siteV 5 154 mX5_isOrder 5 := ⟨tblG_in (inT4 (List.mem_of_getElem? (i := 98) rfl)) rfl, sel_X5_isOrder.1, sel_X5_isOrder.2, rfl⟩
theorem d_X5_isOrder_0 : decode mX5_isOrder.2.2.1 0 = .ok (.aload_n 0, 1) := by decide +kernel
theorem d_X5_isOrder_1 : decode mX5_isOrder.2.2.1 1 = .ok (.getfield 18, 3) := by decide +kernel
theorem d_X5_isOrder_4 : decode mX5_isOrder.2.2.1 4 = .ok (.getfield 68, 3) := by decide +kernel
theorem d_X5_isOrder_7 : decode mX5_isOrder.2.2.1 7 = .ok (.aload_n 0, 1) := by decide +kernel
theorem d_X5_isOrder_8 : decode mX5_isOrder.2.2.1 8 = .ok (.getfield 36, 3) := by decide +kernel
theorem d_X5_isOrder_11 : decode mX5_isOrder.2.2.1 11 = .ok (.iaload, 1) := by decide +kernel
theorem d_X5_isOrder_12 : decode mX5_isOrder.2.2.1 12 = .ok (.istore_n 1, 1) := by decide +kernel
theorem d_X5_isOrder_13 : decode mX5_isOrder.2.2.1 13 = .ok (.aload_n 0, 1) := by decide +kernel
theorem d_X5_isOrder_14 : decode mX5_isOrder.2.2.1 14 = .ok (.getfield 18, 3) := by decide +kernel
theorem d_X5_isOrder_17 : decode mX5_isOrder.2.2.1 17 = .ok (.getfield 50, 3) := by decide +kernel
theorem d_X5_isOrder_20 : decode mX5_isOrder.2.2.1 20 = .ok (.aload_n 0, 1) := by decide +kernel
theorem d_X5_isOrder_21 : decode mX5_isOrder.2.2.1 21 = .ok (.getfield 36, 3) := by decide +kernel
theorem d_X5_isOrder_24 : decode mX5_isOrder.2.2.1 24 = .ok (.iaload, 1) := by decide +kernel
theorem d_X5_isOrder_25 : decode mX5_isOrder.2.2.1 25 = .ok (.iconst 2, 1) := by decide +kernel
theorem d_X5_isOrder_26 : decode mX5_isOrder.2.2.1 26 = .ok (.if_icmp .ne 18, 3) := by decide +kernel
theorem d_X5_isOrder_44 : decode mX5_isOrder.2.2.1 44 = .ok (.iconst 0, 1) := by decide +kernel
theorem d_X5_isOrder_45 : decode mX5_isOrder.2.2.1 45 = .ok (.ireturn, 1) := by decide +kernel
theorem d_X5_isOrder_29 : decode mX5_isOrder.2.2.1 29 = .ok (.iload_n 1, 1) := by decide +kernel
theorem d_X5_isOrder_30 : decode mX5_isOrder.2.2.1 30 = .ok (.iconst 5, 1) := by decide +kernel
theorem d_X5_isOrder_31 : decode mX5_isOrder.2.2.1 31 = .ok (.if_icmp .lt 13, 3) := by decide +kernel
theorem d_X5_isOrder_34 : decode mX5_isOrder.2.2.1 34 = .ok (.iload_n 1, 1) := by decide +kernel
theorem d_X5_isOrder_35 : decode mX5_isOrder.2.2.1 35 = .ok (.bipush 12, 2) := by decide +kernel
theorem d_X5_isOrder_37 : decode mX5_isOrder.2.2.1 37 = .ok (.if_icmp .gt 7, 3) := by decide +kernel
theorem d_X5_isOrder_40 : decode mX5_isOrder.2.2.1 40 = .ok (.iconst 1, 1) := by decide +kernel
theorem d_X5_isOrder_41 : decode mX5_isOrder.2.2.1 41 = .ok (.goto 4, 3) := by decide +kernel
theorem ok_X5_isOrder : e_m mX5_isOrder 0 := ⟨tblG_in (inT4 (List.mem_of_getElem? (i := 101) rfl)) rfl, plainFor_of_name (by decide), rfl, ini_5, by decide +kernel, by decide⟩
theorem d_X5_orders_18 : decode mX5_orders.2.2.1 18 = .ok (.ifCond .eq 93, 3) := by decide +kernel
theorem d_X5_orders_111 : decode mX5_orders.2.2.1 111 = .ok (.iload_n 2, 1) := by decide +kernel
theorem d_X5_orders_112 : decode mX5_orders.2.2.1 112 = .ok (.ireturn, 1) := by decide +kernel
theorem d_X5_orders_21 : decode mX5_orders.2.2.1 21 = .ok (.aload_n 0, 1) := by decide +kernel
theorem d_X5_orders_22 : decode mX5_orders.2.2.1 22 = .ok (.getfield 32, 3) := by decide +kernel
theorem d_X5_orders_25 : decode mX5_orders.2.2.1 25 = .ok (.getfield 157, 3) := by decide +kernel
theorem f_5_157 : e_fld 5 157 4 0 13 0 false := ⟨RX4, TX4, 0, rfl, rfl, by decide, rfl, rfl, rfl, iX4, tblG_in (inT1 (List.mem_of_getElem? (i := 107) rfl)) rfl, tyX4_ok, nmX4⟩
theorem d_X5_orders_28 : decode mX5_orders.2.2.1 28 = .ok (.bipush 60, 2) := by decide +kernel
theorem d_X5_orders_30 : decode mX5_orders.2.2.1 30 = .ok (.if_icmp .lt 12, 3) := by decide +kernel
theorem d_X5_orders_42 : decode mX5_orders.2.2.1 42 = .ok (.aload_n 0, 1) := by decide +kernel
theorem d_X5_orders_43 : decode mX5_orders.2.2.1 43 = .ok (.getfield 32, 3) := by decide +kernel
theorem d_X5_orders_46 : decode mX5_orders.2.2.1 46 = .ok (.aload_n 0, 1) := by decide +kernel
theorem d_X5_orders_47 : decode mX5_orders.2.2.1 47 = .ok (.getfield 18, 3) := by decide +kernel
