theorem d_X12_wasted_35 : decode mX12_wasted.2.2.1 35 = .ok (.istore 4, 2) := by decide +kernel
theorem d_X12_wasted_37 : decode mX12_wasted.2.2.1 37 = .ok (.iconst 0, 1) := by decide +kernel
theorem d_X12_wasted_38 : decode mX12_wasted.2.2.1 38 = .ok (.istore 5, 2) := by decide +kernel
theorem d_X12_wasted_40 : decode mX12_wasted.2.2.1 40 = .ok (.iload 4, 2) := by decide +kernel
theorem d_X12_wasted_42 : decode mX12_wasted.2.2.1 42 = .ok (.ifCond .eq 188, 3) := by decide +kernel
theorem d_X12_wasted_45 : decode mX12_wasted.2.2.1 45 = .ok (.aload_n 0, 1) := by decide +kernel
theorem d_X12_wasted_46 : decode mX12_wasted.2.2.1 46 = .ok (.iload_n 3, 1) := by decide +kernel
theorem d_X12_wasted_47 : decode mX12_wasted.2.2.1 47 = .ok (.iload 5, 2) := by decide +kernel
theorem d_X12_wasted_49 : decode mX12_wasted.2.2.1 49 = .ok (.invokevirtual 644, 3) := by decide +kernel
theorem d_X12_wasted_52 : decode mX12_wasted.2.2.1 52 = .ok (.istore 4, 2) := by decide +kernel
theorem d_X12_wasted_54 : decode mX12_wasted.2.2.1 54 = .ok (.iload 4, 2) := by decide +kernel
theorem d_X12_wasted_56 : decode mX12_wasted.2.2.1 56 = .ok (.ifCond .eq 168, 3) := by decide +kernel
theorem d_X12_wasted_59 : decode mX12_wasted.2.2.1 59 = .ok (.aload_n 0, 1) := by decide +kernel
theorem d_X12_wasted_60 : decode mX12_wasted.2.2.1 60 = .ok (.getfield 309, 3) := by decide +kernel
theorem d_X12_wasted_63 : decode mX12_wasted.2.2.1 63 = .ok (.aload_n 0, 1) := by decide +kernel
theorem d_X12_wasted_64 : decode mX12_wasted.2.2.1 64 = .ok (.getfield 273, 3) := by decide +kernel
theorem d_X12_wasted_67 : decode mX12_wasted.2.2.1 67 = .ok (.if_icmp .ne 15, 3) := by decide +kernel
theorem d_X12_wasted_70 : decode mX12_wasted.2.2.1 70 = .ok (.aload_n 0, 1) := by decide +kernel
theorem d_X12_wasted_71 : decode mX12_wasted.2.2.1 71 = .ok (.getfield 297, 3) := by decide +kernel
theorem d_X12_wasted_74 : decode mX12_wasted.2.2.1 74 = .ok (.iload_n 3, 1) := by decide +kernel
theorem d_X12_wasted_75 : decode mX12_wasted.2.2.1 75 = .ok (.baload, 1) := by decide +kernel
theorem d_X12_wasted_76 : decode mX12_wasted.2.2.1 76 = .ok (.ifCond .ne 6, 3) := by decide +kernel
theorem d_X12_wasted_79 : decode mX12_wasted.2.2.1 79 = .ok (.goto 145, 3) := by decide +kernel
theorem d_X12_wasted_82 : decode mX12_wasted.2.2.1 82 = .ok (.iconst (-1), 1) := by decide +kernel
theorem d_X12_wasted_83 : decode mX12_wasted.2.2.1 83 = .ok (.istore 6, 2) := by decide +kernel
theorem d_X12_wasted_85 : decode mX12_wasted.2.2.1 85 = .ok (.iconst 0, 1) := by decide +kernel
theorem d_X12_wasted_86 : decode mX12_wasted.2.2.1 86 = .ok (.istore 7, 2) := by decide +kernel
theorem d_X12_wasted_88 : decode mX12_wasted.2.2.1 88 = .ok (.iload 7, 2) := by decide +kernel
theorem d_X12_wasted_90 : decode mX12_wasted.2.2.1 90 = .ok (.aload_n 0, 1) := by decide +kernel
theorem d_X12_wasted_91 : decode mX12_wasted.2.2.1 91 = .ok (.getfield 300, 3) := by decide +kernel
theorem d_X12_wasted_94 : decode mX12_wasted.2.2.1 94 = .ok (.if_icmp .ge 59, 3) := by decide +kernel
theorem d_X12_wasted_153 : decode mX12_wasted.2.2.1 153 = .ok (.iload 6, 2) := by decide +kernel
theorem d_X12_wasted_155 : decode mX12_wasted.2.2.1 155 = .ok (.iload_n 1, 1) := by decide +kernel
theorem d_X12_wasted_156 : decode mX12_wasted.2.2.1 156 = .ok (.if_icmp .eq 6, 3) := by decide +kernel
theorem d_X12_wasted_159 : decode mX12_wasted.2.2.1 159 = .ok (.goto 65, 3) := by decide +kernel
theorem d_X12_wasted_97 : decode mX12_wasted.2.2.1 97 = .ok (.aload_n 0, 1) := by decide +kernel
theorem d_X12_wasted_98 : decode mX12_wasted.2.2.1 98 = .ok (.getfield 243, 3) := by decide +kernel
theorem d_X12_wasted_101 : decode mX12_wasted.2.2.1 101 = .ok (.iload 7, 2) := by decide +kernel
theorem d_X12_wasted_103 : decode mX12_wasted.2.2.1 103 = .ok (.iaload, 1) := by decide +kernel
theorem d_X12_wasted_104 : decode mX12_wasted.2.2.1 104 = .ok (.iload_n 3, 1) := by decide +kernel
theorem d_X12_wasted_105 : decode mX12_wasted.2.2.1 105 = .ok (.if_icmp .ne 42, 3) := by decide +kernel
theorem d_X12_wasted_108 : decode mX12_wasted.2.2.1 108 = .ok (.aload_n 0, 1) := by decide +kernel
theorem d_X12_wasted_109 : decode mX12_wasted.2.2.1 109 = .ok (.getfield 249, 3) := by decide +kernel
theorem d_X12_wasted_112 : decode mX12_wasted.2.2.1 112 = .ok (.iload 7, 2) := by decide +kernel
theorem d_X12_wasted_114 : decode mX12_wasted.2.2.1 114 = .ok (.iaload, 1) := by decide +kernel
theorem d_X12_wasted_115 : decode mX12_wasted.2.2.1 115 = .ok (.aload_n 0, 1) := by decide +kernel
theorem d_X12_wasted_116 : decode mX12_wasted.2.2.1 116 = .ok (.getfield 306, 3) := by decide +kernel
theorem d_X12_wasted_119 : decode mX12_wasted.2.2.1 119 = .ok (.iconst 1, 1) := by decide +kernel
theorem d_X12_wasted_120 : decode mX12_wasted.2.2.1 120 = .ok (.isub, 1) := by decide +kernel
theorem d_X12_wasted_121 : decode mX12_wasted.2.2.1 121 = .ok (.if_icmp .lt 26, 3) := by decide +kernel
theorem d_X12_wasted_124 : decode mX12_wasted.2.2.1 124 = .ok (.aload_n 0, 1) := by decide +kernel
theorem d_X12_wasted_125 : decode mX12_wasted.2.2.1 125 = .ok (.getfield 249, 3) := by decide +kernel
theorem d_X12_wasted_128 : decode mX12_wasted.2.2.1 128 = .ok (.iload 7, 2) := by decide +kernel
theorem d_X12_wasted_130 : decode mX12_wasted.2.2.1 130 = .ok (.iaload, 1) := by decide +kernel
theorem d_X12_wasted_131 : decode mX12_wasted.2.2.1 131 = .ok (.aload_n 0, 1) := by decide +kernel
theorem d_X12_wasted_132 : decode mX12_wasted.2.2.1 132 = .ok (.getfield 309, 3) := by decide +kernel
theorem d_X12_wasted_135 : decode mX12_wasted.2.2.1 135 = .ok (.if_icmp .ge 12, 3) := by decide +kernel
theorem d_X12_wasted_138 : decode mX12_wasted.2.2.1 138 = .ok (.aload_n 0, 1) := by decide +kernel
theorem d_X12_wasted_139 : decode mX12_wasted.2.2.1 139 = .ok (.getfield 246, 3) := by decide +kernel
theorem d_X12_wasted_142 : decode mX12_wasted.2.2.1 142 = .ok (.iload 7, 2) := by decide +kernel
theorem d_X12_wasted_144 : decode mX12_wasted.2.2.1 144 = .ok (.iaload, 1) := by decide +kernel
theorem d_X12_wasted_145 : decode mX12_wasted.2.2.1 145 = .ok (.istore 6, 2) := by decide +kernel
theorem d_X12_wasted_147 : decode mX12_wasted.2.2.1 147 = .ok (.iinc 7 1, 3) := by decide +kernel
theorem d_X12_wasted_150 : decode mX12_wasted.2.2.1 150 = .ok (.goto (-62), 3) := by decide +kernel
theorem d_X12_wasted_162 : decode mX12_wasted.2.2.1 162 = .ok (.aload_n 0, 1) := by decide +kernel
theorem d_X12_wasted_163 : decode mX12_wasted.2.2.1 163 = .ok (.getfield 309, 3) := by decide +kernel
theorem d_X12_wasted_166 : decode mX12_wasted.2.2.1 166 = .ok (.iconst 1, 1) := by decide +kernel
theorem d_X12_wasted_167 : decode mX12_wasted.2.2.1 167 = .ok (.isub, 1) := by decide +kernel
theorem d_X12_wasted_168 : decode mX12_wasted.2.2.1 168 = .ok (.istore 7, 2) := by decide +kernel
theorem d_X12_wasted_170 : decode mX12_wasted.2.2.1 170 = .ok (.iload 7, 2) := by decide +kernel
theorem d_X12_wasted_172 : decode mX12_wasted.2.2.1 172 = .ok (.aload_n 0, 1) := by decide +kernel
theorem d_X12_wasted_173 : decode mX12_wasted.2.2.1 173 = .ok (.getfield 306, 3) := by decide +kernel
theorem d_X12_wasted_176 : decode mX12_wasted.2.2.1 176 = .ok (.if_icmp .lt 48, 3) := by decide +kernel
theorem d_X12_wasted_179 : decode mX12_wasted.2.2.1 179 = .ok (.iload 7, 2) := by decide +kernel
theorem d_X12_wasted_181 : decode mX12_wasted.2.2.1 181 = .ok (.aload_n 0, 1) := by decide +kernel
theorem d_X12_wasted_182 : decode mX12_wasted.2.2.1 182 = .ok (.getfield 309, 3) := by decide +kernel
theorem d_X12_wasted_185 : decode mX12_wasted.2.2.1 185 = .ok (.aload_n 0, 1) := by decide +kernel
theorem d_X12_wasted_186 : decode mX12_wasted.2.2.1 186 = .ok (.iload_n 3, 1) := by decide +kernel
theorem d_X12_wasted_187 : decode mX12_wasted.2.2.1 187 = .ok (.invokevirtual 591, 3) := by decide +kernel
def mX12_tails : MD := (12, yX12_tails, cX12_tails, 2, some .int)
theorem sel_X12_tails : Cond.instanceMethod mX12_tails.2.1 ∈ tblG ∧ Cond.selects mX12_tails.2.1.cls mX12_tails.2.1 mX12_tails.2.1 ∈ tblG := ⟨tblG_in (inT9 (List.mem_of_getElem? (i := 118) rfl)) rfl, tblG_in (inP8 (q := (mX12_tails.2.1, 121)) (List.mem_of_getElem? (i := 7) rfl)) rfl⟩
theorem s_12_591 : e_siteV 12 591 mX12_tails 12 := ⟨tblG_in (inT9 (List.mem_of_getElem? (i := 116) rfl)) rfl, sel_X12_tails.1, sel_X12_tails.2, rfl⟩
theorem d_X12_tails_0 : decode mX12_tails.2.2.1 0 = .ok (.aload_n 0, 1) := by decide +kernel
theorem d_X12_tails_1 : decode mX12_tails.2.2.1 1 = .ok (.iload_n 1, 1) := by decide +kernel
theorem d_X12_tails_2 : decode mX12_tails.2.2.1 2 = .ok (.iconst 5, 1) := by decide +kernel
theorem d_X12_tails_3 : decode mX12_tails.2.2.1 3 = .ok (.invokevirtual 565, 3) := by decide +kernel
theorem d_X12_tails_6 : decode mX12_tails.2.2.1 6 = .ok (.ireturn, 1) := by decide +kernel
theorem ok_X12_tails : e_m mX12_tails 1 := ⟨tblG_in (inT9 (List.mem_of_getElem? (i := 119) rfl)) rfl, plainFor_of_name (by decide), rfl, ini_12, by decide +kernel, by decide⟩
theorem d_X12_wasted_190 : decode mX12_wasted.2.2.1 190 = .ok (.isub, 1) := by decide +kernel
theorem d_X12_wasted_191 : decode mX12_wasted.2.2.1 191 = .ok (.if_icmp .lt 33, 3) := by decide +kernel
theorem d_X12_wasted_194 : decode mX12_wasted.2.2.1 194 = .ok (.iload_n 2, 1) := by decide +kernel
theorem d_X12_wasted_195 : decode mX12_wasted.2.2.1 195 = .ok (.aload_n 0, 1) := by decide +kernel
theorem d_X12_wasted_196 : decode mX12_wasted.2.2.1 196 = .ok (.iload_n 3, 1) := by decide +kernel
theorem d_X12_wasted_197 : decode mX12_wasted.2.2.1 197 = .ok (.iload 7, 2) := by decide +kernel
theorem d_X12_wasted_199 : decode mX12_wasted.2.2.1 199 = .ok (.invokevirtual 641, 3) := by decide +kernel
theorem d_X12_wasted_202 : decode mX12_wasted.2.2.1 202 = .ok (.iconst 2, 1) := by decide +kernel
theorem d_X12_wasted_203 : decode mX12_wasted.2.2.1 203 = .ok (.if_icmp .ne 12, 3) := by decide +kernel
theorem d_X12_wasted_215 : decode mX12_wasted.2.2.1 215 = .ok (.iconst 0, 1) := by decide +kernel
theorem d_X12_wasted_206 : decode mX12_wasted.2.2.1 206 = .ok (.aload_n 0, 1) := by decide +kernel
theorem d_X12_wasted_207 : decode mX12_wasted.2.2.1 207 = .ok (.iload_n 3, 1) := by decide +kernel
theorem d_X12_wasted_208 : decode mX12_wasted.2.2.1 208 = .ok (.iconst 3, 1) := by decide +kernel
theorem d_X12_wasted_209 : decode mX12_wasted.2.2.1 209 = .ok (.invokevirtual 565, 3) := by decide +kernel
theorem d_X12_wasted_212 : decode mX12_wasted.2.2.1 212 = .ok (.goto 4, 3) := by decide +kernel
theorem d_X12_wasted_216 : decode mX12_wasted.2.2.1 216 = .ok (.iadd, 1) := by decide +kernel
theorem d_X12_wasted_217 : decode mX12_wasted.2.2.1 217 = .ok (.istore_n 2, 1) := by decide +kernel
theorem d_X12_wasted_218 : decode mX12_wasted.2.2.1 218 = .ok (.iinc 7 (-1), 3) := by decide +kernel
theorem d_X12_wasted_221 : decode mX12_wasted.2.2.1 221 = .ok (.goto (-51), 3) := by decide +kernel
theorem d_X12_wasted_224 : decode mX12_wasted.2.2.1 224 = .ok (.iinc 5 1, 3) := by decide +kernel
theorem d_X12_wasted_227 : decode mX12_wasted.2.2.1 227 = .ok (.goto (-187), 3) := by decide +kernel
theorem d_X12_wasted_230 : decode mX12_wasted.2.2.1 230 = .ok (.iinc 3 1, 3) := by decide +kernel
theorem d_X12_wasted_233 : decode mX12_wasted.2.2.1 233 = .ok (.goto (-212), 3) := by decide +kernel
def mX12_where : MD := (12, yX12_where, cX12_where, 2, some .int)
theorem d_X12_where_0 : decode mX12_where.2.2.1 0 = .ok (.aload_n 0, 1) := by decide +kernel
theorem d_X12_where_1 : decode mX12_where.2.2.1 1 = .ok (.getfield 327, 3) := by decide +kernel
theorem d_X12_where_4 : decode mX12_where.2.2.1 4 = .ok (.ifCond .eq 20, 3) := by decide +kernel
theorem d_X12_where_24 : decode mX12_where.2.2.1 24 = .ok (.iconst (-1), 1) := by decide +kernel
theorem d_X12_where_25 : decode mX12_where.2.2.1 25 = .ok (.ireturn, 1) := by decide +kernel
theorem d_X12_where_7 : decode mX12_where.2.2.1 7 = .ok (.aload_n 0, 1) := by decide +kernel
theorem d_X12_where_8 : decode mX12_where.2.2.1 8 = .ok (.iload_n 1, 1) := by decide +kernel
theorem d_X12_where_9 : decode mX12_where.2.2.1 9 = .ok (.invokevirtual 562, 3) := by decide +kernel
theorem d_X12_where_12 : decode mX12_where.2.2.1 12 = .ok (.ifCond .eq 12, 3) := by decide +kernel
theorem d_X12_where_15 : decode mX12_where.2.2.1 15 = .ok (.aload_n 0, 1) := by decide +kernel
theorem d_X12_where_16 : decode mX12_where.2.2.1 16 = .ok (.getfield 330, 3) := by decide +kernel
theorem d_X12_where_19 : decode mX12_where.2.2.1 19 = .ok (.iload_n 1, 1) := by decide +kernel
theorem d_X12_where_20 : decode mX12_where.2.2.1 20 = .ok (.iaload, 1) := by decide +kernel
theorem d_X12_where_21 : decode mX12_where.2.2.1 21 = .ok (.goto 4, 3) := by decide +kernel
def mX12_fit : MD := (12, yX12_fit, cX12_fit, 10, some .int)
theorem d_X12_fit_0 : decode mX12_fit.2.2.1 0 = .ok (.aload_n 0, 1) := by decide +kernel
theorem d_X12_fit_1 : decode mX12_fit.2.2.1 1 = .ok (.iload_n 1, 1) := by decide +kernel
theorem d_X12_fit_2 : decode mX12_fit.2.2.1 2 = .ok (.invokevirtual 555, 3) := by decide +kernel
theorem d_X12_fit_5 : decode mX12_fit.2.2.1 5 = .ok (.ifCond .eq 10, 3) := by decide +kernel
theorem d_X12_fit_15 : decode mX12_fit.2.2.1 15 = .ok (.iconst (-1), 1) := by decide +kernel
theorem d_X12_fit_16 : decode mX12_fit.2.2.1 16 = .ok (.ireturn, 1) := by decide +kernel
theorem d_X12_fit_8 : decode mX12_fit.2.2.1 8 = .ok (.aload_n 0, 1) := by decide +kernel
theorem d_X12_fit_9 : decode mX12_fit.2.2.1 9 = .ok (.getfield 333, 3) := by decide +kernel
theorem d_X12_fit_12 : decode mX12_fit.2.2.1 12 = .ok (.ifCond .ne 5, 3) := by decide +kernel
theorem d_X12_fit_17 : decode mX12_fit.2.2.1 17 = .ok (.iconst 0, 1) := by decide +kernel
theorem d_X12_fit_18 : decode mX12_fit.2.2.1 18 = .ok (.istore_n 2, 1) := by decide +kernel
theorem d_X12_fit_19 : decode mX12_fit.2.2.1 19 = .ok (.iload_n 2, 1) := by decide +kernel
theorem d_X12_fit_20 : decode mX12_fit.2.2.1 20 = .ok (.aload_n 0, 1) := by decide +kernel
theorem d_X12_fit_21 : decode mX12_fit.2.2.1 21 = .ok (.getfield 333, 3) := by decide +kernel
theorem d_X12_fit_24 : decode mX12_fit.2.2.1 24 = .ok (.if_icmp .ge 172, 3) := by decide +kernel
theorem d_X12_fit_27 : decode mX12_fit.2.2.1 27 = .ok (.iconst 0, 1) := by decide +kernel
theorem d_X12_fit_28 : decode mX12_fit.2.2.1 28 = .ok (.istore_n 3, 1) := by decide +kernel
theorem d_X12_fit_29 : decode mX12_fit.2.2.1 29 = .ok (.iload_n 3, 1) := by decide +kernel
theorem d_X12_fit_30 : decode mX12_fit.2.2.1 30 = .ok (.iconst 3, 1) := by decide +kernel
theorem d_X12_fit_31 : decode mX12_fit.2.2.1 31 = .ok (.if_icmp .ge 25, 3) := by decide +kernel
theorem d_X12_fit_34 : decode mX12_fit.2.2.1 34 = .ok (.aload_n 0, 1) := by decide +kernel
theorem d_X12_fit_35 : decode mX12_fit.2.2.1 35 = .ok (.getfield 171, 3) := by decide +kernel
theorem d_X12_fit_38 : decode mX12_fit.2.2.1 38 = .ok (.iload_n 3, 1) := by decide +kernel
theorem d_X12_fit_39 : decode mX12_fit.2.2.1 39 = .ok (.aload_n 0, 1) := by decide +kernel
theorem d_X12_fit_40 : decode mX12_fit.2.2.1 40 = .ok (.getfield 336, 3) := by decide +kernel
theorem d_X12_fit_43 : decode mX12_fit.2.2.1 43 = .ok (.iconst 3, 1) := by decide +kernel
theorem d_X12_fit_44 : decode mX12_fit.2.2.1 44 = .ok (.iload_n 2, 1) := by decide +kernel
theorem d_X12_fit_45 : decode mX12_fit.2.2.1 45 = .ok (.imul, 1) := by decide +kernel
theorem d_X12_fit_46 : decode mX12_fit.2.2.1 46 = .ok (.iload_n 3, 1) := by decide +kernel
theorem d_X12_fit_47 : decode mX12_fit.2.2.1 47 = .ok (.iadd, 1) := by decide +kernel
theorem d_X12_fit_48 : decode mX12_fit.2.2.1 48 = .ok (.iaload, 1) := by decide +kernel
theorem d_X12_fit_49 : decode mX12_fit.2.2.1 49 = .ok (.iastore, 1) := by decide +kernel
theorem d_X12_fit_50 : decode mX12_fit.2.2.1 50 = .ok (.iinc 3 1, 3) := by decide +kernel
theorem d_X12_fit_53 : decode mX12_fit.2.2.1 53 = .ok (.goto (-24), 3) := by decide +kernel
theorem d_X12_fit_56 : decode mX12_fit.2.2.1 56 = .ok (.aload_n 0, 1) := by decide +kernel
theorem d_X12_fit_57 : decode mX12_fit.2.2.1 57 = .ok (.ldc2_w 686, 3) := by decide +kernel
theorem kl_12_686 : Jvm.Cond.constantLong (e_cn 12) 686 (Int64.ofInt (-1)) ∈ tblG := tblG_in (inT9 (List.mem_of_getElem? (i := 228) rfl)) rfl
theorem d_X12_fit_60 : decode mX12_fit.2.2.1 60 = .ok (.invokevirtual 637, 3) := by decide +kernel
def mX12_runs : MD := (12, yX12_runs, cX12_runs, 6, some .int)
theorem sel_X12_runs : Cond.instanceMethod mX12_runs.2.1 ∈ tblG ∧ Cond.selects mX12_runs.2.1.cls mX12_runs.2.1 mX12_runs.2.1 ∈ tblG := ⟨tblG_in (inT9 (List.mem_of_getElem? (i := 52) rfl)) rfl, tblG_in (inP7 (q := (mX12_runs.2.1, 121)) (List.mem_of_getElem? (i := 10) rfl)) rfl⟩
theorem s_12_637 : e_siteV 12 637 mX12_runs 12 := ⟨tblG_in (inT9 (List.mem_of_getElem? (i := 50) rfl)) rfl, sel_X12_runs.1, sel_X12_runs.2, rfl⟩
theorem d_X12_runs_0 : decode mX12_runs.2.2.1 0 = .ok (.iconst 0, 1) := by decide +kernel
theorem d_X12_runs_1 : decode mX12_runs.2.2.1 1 = .ok (.istore_n 3, 1) := by decide +kernel
theorem d_X12_runs_2 : decode mX12_runs.2.2.1 2 = .ok (.iload_n 3, 1) := by decide +kernel
theorem d_X12_runs_3 : decode mX12_runs.2.2.1 3 = .ok (.bipush 6, 2) := by decide +kernel
theorem d_X12_runs_5 : decode mX12_runs.2.2.1 5 = .ok (.if_icmp .ge 16, 3) := by decide +kernel
theorem d_X12_runs_8 : decode mX12_runs.2.2.1 8 = .ok (.aload_n 0, 1) := by decide +kernel
theorem d_X12_runs_9 : decode mX12_runs.2.2.1 9 = .ok (.getfield 174, 3) := by decide +kernel
theorem d_X12_runs_12 : decode mX12_runs.2.2.1 12 = .ok (.iload_n 3, 1) := by decide +kernel
theorem d_X12_runs_13 : decode mX12_runs.2.2.1 13 = .ok (.iconst 0, 1) := by decide +kernel
theorem d_X12_runs_14 : decode mX12_runs.2.2.1 14 = .ok (.iastore, 1) := by decide +kernel
theorem d_X12_runs_15 : decode mX12_runs.2.2.1 15 = .ok (.iinc 3 1, 3) := by decide +kernel
theorem d_X12_runs_18 : decode mX12_runs.2.2.1 18 = .ok (.goto (-16), 3) := by decide +kernel
theorem d_X12_runs_21 : decode mX12_runs.2.2.1 21 = .ok (.iconst 0, 1) := by decide +kernel
theorem d_X12_runs_22 : decode mX12_runs.2.2.1 22 = .ok (.istore_n 3, 1) := by decide +kernel
theorem d_X12_runs_23 : decode mX12_runs.2.2.1 23 = .ok (.iload_n 3, 1) := by decide +kernel
theorem d_X12_runs_24 : decode mX12_runs.2.2.1 24 = .ok (.bipush 6, 2) := by decide +kernel
theorem d_X12_runs_26 : decode mX12_runs.2.2.1 26 = .ok (.if_icmp .ge 37, 3) := by decide +kernel
theorem d_X12_runs_29 : decode mX12_runs.2.2.1 29 = .ok (.aload_n 0, 1) := by decide +kernel
theorem d_X12_runs_30 : decode mX12_runs.2.2.1 30 = .ok (.getfield 177, 3) := by decide +kernel
theorem d_X12_runs_33 : decode mX12_runs.2.2.1 33 = .ok (.iload_n 3, 1) := by decide +kernel
theorem d_X12_runs_34 : decode mX12_runs.2.2.1 34 = .ok (.iconst 0, 1) := by decide +kernel
theorem d_X12_runs_35 : decode mX12_runs.2.2.1 35 = .ok (.bastore, 1) := by decide +kernel
theorem d_X12_runs_36 : decode mX12_runs.2.2.1 36 = .ok (.aload_n 0, 1) := by decide +kernel
theorem d_X12_runs_37 : decode mX12_runs.2.2.1 37 = .ok (.getfield 180, 3) := by decide +kernel
theorem d_X12_runs_40 : decode mX12_runs.2.2.1 40 = .ok (.iload_n 3, 1) := by decide +kernel
theorem d_X12_runs_41 : decode mX12_runs.2.2.1 41 = .ok (.iconst (-1), 1) := by decide +kernel
theorem d_X12_runs_42 : decode mX12_runs.2.2.1 42 = .ok (.iastore, 1) := by decide +kernel
theorem d_X12_runs_43 : decode mX12_runs.2.2.1 43 = .ok (.aload_n 0, 1) := by decide +kernel
theorem d_X12_runs_44 : decode mX12_runs.2.2.1 44 = .ok (.getfield 183, 3) := by decide +kernel
theorem d_X12_runs_47 : decode mX12_runs.2.2.1 47 = .ok (.iload_n 3, 1) := by decide +kernel
theorem d_X12_runs_48 : decode mX12_runs.2.2.1 48 = .ok (.iconst 0, 1) := by decide +kernel
theorem d_X12_runs_49 : decode mX12_runs.2.2.1 49 = .ok (.iastore, 1) := by decide +kernel
theorem d_X12_runs_50 : decode mX12_runs.2.2.1 50 = .ok (.aload_n 0, 1) := by decide +kernel
theorem d_X12_runs_51 : decode mX12_runs.2.2.1 51 = .ok (.getfield 186, 3) := by decide +kernel
theorem d_X12_runs_54 : decode mX12_runs.2.2.1 54 = .ok (.iload_n 3, 1) := by decide +kernel
theorem d_X12_runs_55 : decode mX12_runs.2.2.1 55 = .ok (.iconst (-1), 1) := by decide +kernel
theorem d_X12_runs_56 : decode mX12_runs.2.2.1 56 = .ok (.iastore, 1) := by decide +kernel
theorem d_X12_runs_57 : decode mX12_runs.2.2.1 57 = .ok (.iinc 3 1, 3) := by decide +kernel
theorem d_X12_runs_60 : decode mX12_runs.2.2.1 60 = .ok (.goto (-37), 3) := by decide +kernel
theorem d_X12_runs_63 : decode mX12_runs.2.2.1 63 = .ok (.iconst 0, 1) := by decide +kernel
theorem d_X12_runs_64 : decode mX12_runs.2.2.1 64 = .ok (.istore_n 3, 1) := by decide +kernel
theorem d_X12_runs_65 : decode mX12_runs.2.2.1 65 = .ok (.iload_n 3, 1) := by decide +kernel
theorem d_X12_runs_66 : decode mX12_runs.2.2.1 66 = .ok (.bipush 8, 2) := by decide +kernel
theorem d_X12_runs_68 : decode mX12_runs.2.2.1 68 = .ok (.if_icmp .ge 16, 3) := by decide +kernel
theorem d_X12_runs_71 : decode mX12_runs.2.2.1 71 = .ok (.aload_n 0, 1) := by decide +kernel
theorem d_X12_runs_72 : decode mX12_runs.2.2.1 72 = .ok (.getfield 189, 3) := by decide +kernel
theorem d_X12_runs_75 : decode mX12_runs.2.2.1 75 = .ok (.iload_n 3, 1) := by decide +kernel
theorem d_X12_runs_76 : decode mX12_runs.2.2.1 76 = .ok (.iconst (-1), 1) := by decide +kernel
theorem d_X12_runs_77 : decode mX12_runs.2.2.1 77 = .ok (.iastore, 1) := by decide +kernel
theorem d_X12_runs_78 : decode mX12_runs.2.2.1 78 = .ok (.iinc 3 1, 3) := by decide +kernel
theorem d_X12_runs_81 : decode mX12_runs.2.2.1 81 = .ok (.goto (-16), 3) := by decide +kernel
theorem d_X12_runs_84 : decode mX12_runs.2.2.1 84 = .ok (.iconst 0, 1) := by decide +kernel
theorem d_X12_runs_85 : decode mX12_runs.2.2.1 85 = .ok (.istore_n 3, 1) := by decide +kernel
theorem d_X12_runs_86 : decode mX12_runs.2.2.1 86 = .ok (.iload_n 3, 1) := by decide +kernel
theorem d_X12_runs_87 : decode mX12_runs.2.2.1 87 = .ok (.bipush 24, 2) := by decide +kernel
theorem d_X12_runs_89 : decode mX12_runs.2.2.1 89 = .ok (.if_icmp .ge 16, 3) := by decide +kernel
theorem d_X12_runs_92 : decode mX12_runs.2.2.1 92 = .ok (.aload_n 0, 1) := by decide +kernel
theorem d_X12_runs_93 : decode mX12_runs.2.2.1 93 = .ok (.getfield 222, 3) := by decide +kernel
theorem d_X12_runs_96 : decode mX12_runs.2.2.1 96 = .ok (.iload_n 3, 1) := by decide +kernel
theorem d_X12_runs_97 : decode mX12_runs.2.2.1 97 = .ok (.iconst 0, 1) := by decide +kernel
theorem d_X12_runs_98 : decode mX12_runs.2.2.1 98 = .ok (.iastore, 1) := by decide +kernel
theorem d_X12_runs_99 : decode mX12_runs.2.2.1 99 = .ok (.iinc 3 1, 3) := by decide +kernel
