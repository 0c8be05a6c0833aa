theorem d_X12_run_184 : decode mX12_run.2.2.1 184 = .ok (.aload_n 0, 1) := by decide +kernel
theorem d_X12_run_185 : decode mX12_run.2.2.1 185 = .ok (.getfield 177, 3) := by decide +kernel
theorem d_X12_run_188 : decode mX12_run.2.2.1 188 = .ok (.iload_n 3, 1) := by decide +kernel
theorem d_X12_run_189 : decode mX12_run.2.2.1 189 = .ok (.baload, 1) := by decide +kernel
theorem d_X12_run_190 : decode mX12_run.2.2.1 190 = .ok (.ifCond .ne 24, 3) := by decide +kernel
theorem d_X12_run_193 : decode mX12_run.2.2.1 193 = .ok (.aload_n 0, 1) := by decide +kernel
theorem d_X12_run_194 : decode mX12_run.2.2.1 194 = .ok (.getfield 183, 3) := by decide +kernel
theorem d_X12_run_197 : decode mX12_run.2.2.1 197 = .ok (.iload_n 3, 1) := by decide +kernel
theorem d_X12_run_198 : decode mX12_run.2.2.1 198 = .ok (.iaload, 1) := by decide +kernel
theorem d_X12_run_199 : decode mX12_run.2.2.1 199 = .ok (.ifCond .ne 15, 3) := by decide +kernel
theorem d_X12_run_202 : decode mX12_run.2.2.1 202 = .ok (.iload_n 3, 1) := by decide +kernel
theorem d_X12_run_203 : decode mX12_run.2.2.1 203 = .ok (.aload_n 0, 1) := by decide +kernel
theorem d_X12_run_204 : decode mX12_run.2.2.1 204 = .ok (.getfield 195, 3) := by decide +kernel
theorem d_X12_run_207 : decode mX12_run.2.2.1 207 = .ok (.if_icmp .eq 7, 3) := by decide +kernel
theorem d_X12_run_210 : decode mX12_run.2.2.1 210 = .ok (.iconst 1, 1) := by decide +kernel
theorem d_X12_run_211 : decode mX12_run.2.2.1 211 = .ok (.goto 4, 3) := by decide +kernel
theorem d_X12_run_214 : decode mX12_run.2.2.1 214 = .ok (.iconst 0, 1) := by decide +kernel
theorem d_X12_run_215 : decode mX12_run.2.2.1 215 = .ok (.bastore, 1) := by decide +kernel
theorem d_X12_run_216 : decode mX12_run.2.2.1 216 = .ok (.iinc 3 1, 3) := by decide +kernel
theorem d_X12_run_219 : decode mX12_run.2.2.1 219 = .ok (.goto (-46), 3) := by decide +kernel
theorem d_X12_run_222 : decode mX12_run.2.2.1 222 = .ok (.iload_n 2, 1) := by decide +kernel
theorem d_X12_run_223 : decode mX12_run.2.2.1 223 = .ok (.ireturn, 1) := by decide +kernel
def mX12_text : MD := (12, yX12_text, cX12_text, 3, some .int)
theorem d_X12_text_0 : decode mX12_text.2.2.1 0 = .ok (.aload_n 0, 1) := by decide +kernel
theorem d_X12_text_1 : decode mX12_text.2.2.1 1 = .ok (.aload_n 0, 1) := by decide +kernel
theorem d_X12_text_2 : decode mX12_text.2.2.1 2 = .ok (.getfield 13, 3) := by decide +kernel
theorem d_X12_text_5 : decode mX12_text.2.2.1 5 = .ok (.putfield 17, 3) := by decide +kernel
theorem d_X12_text_8 : decode mX12_text.2.2.1 8 = .ok (.aload_n 0, 1) := by decide +kernel
theorem d_X12_text_9 : decode mX12_text.2.2.1 9 = .ok (.iconst 0, 1) := by decide +kernel
theorem d_X12_text_10 : decode mX12_text.2.2.1 10 = .ok (.putfield 13, 3) := by decide +kernel
theorem d_X12_text_13 : decode mX12_text.2.2.1 13 = .ok (.aload_n 0, 1) := by decide +kernel
theorem d_X12_text_14 : decode mX12_text.2.2.1 14 = .ok (.iconst 0, 1) := by decide +kernel
theorem d_X12_text_15 : decode mX12_text.2.2.1 15 = .ok (.putfield 26, 3) := by decide +kernel
theorem d_X12_text_18 : decode mX12_text.2.2.1 18 = .ok (.aload_n 0, 1) := by decide +kernel
theorem d_X12_text_19 : decode mX12_text.2.2.1 19 = .ok (.iconst 0, 1) := by decide +kernel
theorem d_X12_text_20 : decode mX12_text.2.2.1 20 = .ok (.putfield 36, 3) := by decide +kernel
theorem d_X12_text_23 : decode mX12_text.2.2.1 23 = .ok (.aload_n 0, 1) := by decide +kernel
theorem d_X12_text_24 : decode mX12_text.2.2.1 24 = .ok (.iconst (-1), 1) := by decide +kernel
theorem d_X12_text_25 : decode mX12_text.2.2.1 25 = .ok (.putfield 39, 3) := by decide +kernel
theorem d_X12_text_28 : decode mX12_text.2.2.1 28 = .ok (.aload_n 0, 1) := by decide +kernel
theorem d_X12_text_29 : decode mX12_text.2.2.1 29 = .ok (.iconst 1, 1) := by decide +kernel
theorem d_X12_text_30 : decode mX12_text.2.2.1 30 = .ok (.aload_n 0, 1) := by decide +kernel
theorem d_X12_text_31 : decode mX12_text.2.2.1 31 = .ok (.getfield 48, 3) := by decide +kernel
theorem d_X12_text_34 : decode mX12_text.2.2.1 34 = .ok (.isub, 1) := by decide +kernel
theorem d_X12_text_35 : decode mX12_text.2.2.1 35 = .ok (.putfield 124, 3) := by decide +kernel
theorem d_X12_text_38 : decode mX12_text.2.2.1 38 = .ok (.aload_n 0, 1) := by decide +kernel
theorem d_X12_text_39 : decode mX12_text.2.2.1 39 = .ok (.getfield 51, 3) := by decide +kernel
theorem d_X12_text_42 : decode mX12_text.2.2.1 42 = .ok (.aload_n 0, 1) := by decide +kernel
theorem d_X12_text_43 : decode mX12_text.2.2.1 43 = .ok (.getfield 124, 3) := by decide +kernel
theorem d_X12_text_46 : decode mX12_text.2.2.1 46 = .ok (.iconst 1, 1) := by decide +kernel
theorem d_X12_text_47 : decode mX12_text.2.2.1 47 = .ok (.iastore, 1) := by decide +kernel
theorem d_X12_text_48 : decode mX12_text.2.2.1 48 = .ok (.aload_n 0, 1) := by decide +kernel
theorem d_X12_text_49 : decode mX12_text.2.2.1 49 = .ok (.getfield 54, 3) := by decide +kernel
theorem d_X12_text_52 : decode mX12_text.2.2.1 52 = .ok (.aload_n 0, 1) := by decide +kernel
theorem d_X12_text_53 : decode mX12_text.2.2.1 53 = .ok (.getfield 124, 3) := by decide +kernel
theorem d_X12_text_56 : decode mX12_text.2.2.1 56 = .ok (.iconst 1, 1) := by decide +kernel
theorem d_X12_text_57 : decode mX12_text.2.2.1 57 = .ok (.iastore, 1) := by decide +kernel
theorem d_X12_text_58 : decode mX12_text.2.2.1 58 = .ok (.aload_n 0, 1) := by decide +kernel
theorem d_X12_text_59 : decode mX12_text.2.2.1 59 = .ok (.getfield 57, 3) := by decide +kernel
theorem d_X12_text_62 : decode mX12_text.2.2.1 62 = .ok (.aload_n 0, 1) := by decide +kernel
theorem d_X12_text_63 : decode mX12_text.2.2.1 63 = .ok (.getfield 124, 3) := by decide +kernel
theorem d_X12_text_66 : decode mX12_text.2.2.1 66 = .ok (.iconst 1, 1) := by decide +kernel
theorem d_X12_text_67 : decode mX12_text.2.2.1 67 = .ok (.iastore, 1) := by decide +kernel
theorem d_X12_text_68 : decode mX12_text.2.2.1 68 = .ok (.aload_n 0, 1) := by decide +kernel
theorem d_X12_text_69 : decode mX12_text.2.2.1 69 = .ok (.getfield 60, 3) := by decide +kernel
theorem d_X12_text_72 : decode mX12_text.2.2.1 72 = .ok (.aload_n 0, 1) := by decide +kernel
theorem d_X12_text_73 : decode mX12_text.2.2.1 73 = .ok (.getfield 124, 3) := by decide +kernel
theorem d_X12_text_76 : decode mX12_text.2.2.1 76 = .ok (.iconst 0, 1) := by decide +kernel
theorem d_X12_text_77 : decode mX12_text.2.2.1 77 = .ok (.iastore, 1) := by decide +kernel
theorem d_X12_text_78 : decode mX12_text.2.2.1 78 = .ok (.aload_n 0, 1) := by decide +kernel
theorem d_X12_text_79 : decode mX12_text.2.2.1 79 = .ok (.getfield 63, 3) := by decide +kernel
theorem d_X12_text_82 : decode mX12_text.2.2.1 82 = .ok (.aload_n 0, 1) := by decide +kernel
theorem d_X12_text_83 : decode mX12_text.2.2.1 83 = .ok (.getfield 124, 3) := by decide +kernel
theorem d_X12_text_86 : decode mX12_text.2.2.1 86 = .ok (.iconst 0, 1) := by decide +kernel
theorem d_X12_text_87 : decode mX12_text.2.2.1 87 = .ok (.iastore, 1) := by decide +kernel
theorem d_X12_text_88 : decode mX12_text.2.2.1 88 = .ok (.aload_n 0, 1) := by decide +kernel
theorem d_X12_text_89 : decode mX12_text.2.2.1 89 = .ok (.getfield 66, 3) := by decide +kernel
theorem d_X12_text_92 : decode mX12_text.2.2.1 92 = .ok (.aload_n 0, 1) := by decide +kernel
theorem d_X12_text_93 : decode mX12_text.2.2.1 93 = .ok (.getfield 124, 3) := by decide +kernel
theorem d_X12_text_96 : decode mX12_text.2.2.1 96 = .ok (.iconst 0, 1) := by decide +kernel
theorem d_X12_text_97 : decode mX12_text.2.2.1 97 = .ok (.iastore, 1) := by decide +kernel
theorem d_X12_text_98 : decode mX12_text.2.2.1 98 = .ok (.aload_n 0, 1) := by decide +kernel
theorem d_X12_text_99 : decode mX12_text.2.2.1 99 = .ok (.getfield 69, 3) := by decide +kernel
theorem d_X12_text_102 : decode mX12_text.2.2.1 102 = .ok (.aload_n 0, 1) := by decide +kernel
theorem d_X12_text_103 : decode mX12_text.2.2.1 103 = .ok (.getfield 124, 3) := by decide +kernel
theorem d_X12_text_106 : decode mX12_text.2.2.1 106 = .ok (.iconst 0, 1) := by decide +kernel
theorem d_X12_text_107 : decode mX12_text.2.2.1 107 = .ok (.iastore, 1) := by decide +kernel
theorem d_X12_text_108 : decode mX12_text.2.2.1 108 = .ok (.aload_n 0, 1) := by decide +kernel
theorem d_X12_text_109 : decode mX12_text.2.2.1 109 = .ok (.getfield 72, 3) := by decide +kernel
theorem d_X12_text_112 : decode mX12_text.2.2.1 112 = .ok (.aload_n 0, 1) := by decide +kernel
theorem d_X12_text_113 : decode mX12_text.2.2.1 113 = .ok (.getfield 124, 3) := by decide +kernel
theorem d_X12_text_116 : decode mX12_text.2.2.1 116 = .ok (.iconst 0, 1) := by decide +kernel
theorem d_X12_text_117 : decode mX12_text.2.2.1 117 = .ok (.iastore, 1) := by decide +kernel
theorem d_X12_text_118 : decode mX12_text.2.2.1 118 = .ok (.aload_n 0, 1) := by decide +kernel
theorem d_X12_text_119 : decode mX12_text.2.2.1 119 = .ok (.getfield 94, 3) := by decide +kernel
theorem d_X12_text_122 : decode mX12_text.2.2.1 122 = .ok (.aload_n 0, 1) := by decide +kernel
theorem d_X12_text_123 : decode mX12_text.2.2.1 123 = .ok (.getfield 124, 3) := by decide +kernel
theorem d_X12_text_126 : decode mX12_text.2.2.1 126 = .ok (.iconst 0, 1) := by decide +kernel
theorem d_X12_text_127 : decode mX12_text.2.2.1 127 = .ok (.iastore, 1) := by decide +kernel
theorem d_X12_text_128 : decode mX12_text.2.2.1 128 = .ok (.aload_n 0, 1) := by decide +kernel
theorem d_X12_text_129 : decode mX12_text.2.2.1 129 = .ok (.iconst 0, 1) := by decide +kernel
theorem d_X12_text_130 : decode mX12_text.2.2.1 130 = .ok (.putfield 121, 3) := by decide +kernel
theorem d_X12_text_133 : decode mX12_text.2.2.1 133 = .ok (.aload_n 0, 1) := by decide +kernel
theorem d_X12_text_134 : decode mX12_text.2.2.1 134 = .ok (.iconst 0, 1) := by decide +kernel
theorem d_X12_text_135 : decode mX12_text.2.2.1 135 = .ok (.putfield 146, 3) := by decide +kernel
theorem d_X12_text_138 : decode mX12_text.2.2.1 138 = .ok (.aload_n 0, 1) := by decide +kernel
theorem d_X12_text_139 : decode mX12_text.2.2.1 139 = .ok (.iconst 0, 1) := by decide +kernel
theorem d_X12_text_140 : decode mX12_text.2.2.1 140 = .ok (.putfield 165, 3) := by decide +kernel
theorem d_X12_text_143 : decode mX12_text.2.2.1 143 = .ok (.aload_n 0, 1) := by decide +kernel
theorem d_X12_text_144 : decode mX12_text.2.2.1 144 = .ok (.invokevirtual 396, 3) := by decide +kernel
def mX12_next : MD := (12, yX12_next, cX12_next, 6, none)
theorem sel_X12_next : Cond.instanceMethod mX12_next.2.1 ∈ tblG ∧ Cond.selects mX12_next.2.1.cls mX12_next.2.1 mX12_next.2.1 ∈ tblG := ⟨tblG_in (inT8 (List.mem_of_getElem? (i := 94) rfl)) rfl, tblG_in (inP5 (q := (mX12_next.2.1, 121)) (List.mem_of_getElem? (i := 9) rfl)) rfl⟩
theorem s_12_396 : e_siteV 12 396 mX12_next 12 := ⟨tblG_in (inT8 (List.mem_of_getElem? (i := 92) rfl)) rfl, sel_X12_next.1, sel_X12_next.2, rfl⟩
theorem d_X12_next_0 : decode mX12_next.2.2.1 0 = .ok (.aload_n 0, 1) := by decide +kernel
theorem d_X12_next_1 : decode mX12_next.2.2.1 1 = .ok (.getfield 26, 3) := by decide +kernel
theorem d_X12_next_4 : decode mX12_next.2.2.1 4 = .ok (.istore_n 1, 1) := by decide +kernel
theorem d_X12_next_5 : decode mX12_next.2.2.1 5 = .ok (.iload_n 1, 1) := by decide +kernel
theorem d_X12_next_6 : decode mX12_next.2.2.1 6 = .ok (.aload_n 0, 1) := by decide +kernel
theorem d_X12_next_7 : decode mX12_next.2.2.1 7 = .ok (.getfield 17, 3) := by decide +kernel
theorem d_X12_next_10 : decode mX12_next.2.2.1 10 = .ok (.if_icmp .ge 31, 3) := by decide +kernel
theorem d_X12_next_13 : decode mX12_next.2.2.1 13 = .ok (.aload_n 0, 1) := by decide +kernel
theorem d_X12_next_14 : decode mX12_next.2.2.1 14 = .ok (.getfield 7, 3) := by decide +kernel
theorem d_X12_next_17 : decode mX12_next.2.2.1 17 = .ok (.iload_n 1, 1) := by decide +kernel
theorem d_X12_next_18 : decode mX12_next.2.2.1 18 = .ok (.iaload, 1) := by decide +kernel
theorem d_X12_next_19 : decode mX12_next.2.2.1 19 = .ok (.bipush 32, 2) := by decide +kernel
theorem d_X12_next_21 : decode mX12_next.2.2.1 21 = .ok (.if_icmp .eq 14, 3) := by decide +kernel
theorem d_X12_next_24 : decode mX12_next.2.2.1 24 = .ok (.aload_n 0, 1) := by decide +kernel
theorem d_X12_next_25 : decode mX12_next.2.2.1 25 = .ok (.getfield 7, 3) := by decide +kernel
theorem d_X12_next_28 : decode mX12_next.2.2.1 28 = .ok (.iload_n 1, 1) := by decide +kernel
theorem d_X12_next_29 : decode mX12_next.2.2.1 29 = .ok (.iaload, 1) := by decide +kernel
theorem d_X12_next_30 : decode mX12_next.2.2.1 30 = .ok (.bipush 10, 2) := by decide +kernel
theorem d_X12_next_32 : decode mX12_next.2.2.1 32 = .ok (.if_icmp .ne 9, 3) := by decide +kernel
theorem d_X12_next_41 : decode mX12_next.2.2.1 41 = .ok (.aload_n 0, 1) := by decide +kernel
theorem d_X12_next_42 : decode mX12_next.2.2.1 42 = .ok (.iload_n 1, 1) := by decide +kernel
theorem d_X12_next_43 : decode mX12_next.2.2.1 43 = .ok (.putfield 23, 3) := by decide +kernel
theorem d_X12_next_46 : decode mX12_next.2.2.1 46 = .ok (.aload_n 0, 1) := by decide +kernel
theorem d_X12_next_47 : decode mX12_next.2.2.1 47 = .ok (.iload_n 1, 1) := by decide +kernel
theorem d_X12_next_48 : decode mX12_next.2.2.1 48 = .ok (.putfield 26, 3) := by decide +kernel
theorem d_X12_next_51 : decode mX12_next.2.2.1 51 = .ok (.aload_n 0, 1) := by decide +kernel
theorem d_X12_next_52 : decode mX12_next.2.2.1 52 = .ok (.iconst 0, 1) := by decide +kernel
theorem d_X12_next_53 : decode mX12_next.2.2.1 53 = .ok (.putfield 20, 3) := by decide +kernel
theorem d_X12_next_56 : decode mX12_next.2.2.1 56 = .ok (.iload_n 1, 1) := by decide +kernel
theorem d_X12_next_57 : decode mX12_next.2.2.1 57 = .ok (.aload_n 0, 1) := by decide +kernel
theorem d_X12_next_58 : decode mX12_next.2.2.1 58 = .ok (.getfield 17, 3) := by decide +kernel
theorem d_X12_next_61 : decode mX12_next.2.2.1 61 = .ok (.if_icmp .lt 4, 3) := by decide +kernel
theorem d_X12_next_65 : decode mX12_next.2.2.1 65 = .ok (.aload_n 0, 1) := by decide +kernel
theorem d_X12_next_66 : decode mX12_next.2.2.1 66 = .ok (.getfield 7, 3) := by decide +kernel
theorem d_X12_next_69 : decode mX12_next.2.2.1 69 = .ok (.iload_n 1, 1) := by decide +kernel
theorem d_X12_next_70 : decode mX12_next.2.2.1 70 = .ok (.iaload, 1) := by decide +kernel
theorem d_X12_next_71 : decode mX12_next.2.2.1 71 = .ok (.invokestatic 382, 3) := by decide +kernel
def mX12_isLetter : MD := (12, yX12_isLetter, cX12_isLetter, 1, some .boolean)
theorem s_12_382 : e_siteS 12 382 mX12_isLetter := ⟨tblG_in (inT8 (List.mem_of_getElem? (i := 96) rfl)) rfl, tblG_in (inT8 (List.mem_of_getElem? (i := 97) rfl)) rfl⟩
theorem d_X12_isLetter_0 : decode mX12_isLetter.2.2.1 0 = .ok (.iload_n 0, 1) := by decide +kernel
theorem d_X12_isLetter_1 : decode mX12_isLetter.2.2.1 1 = .ok (.bipush 97, 2) := by decide +kernel
theorem d_X12_isLetter_3 : decode mX12_isLetter.2.2.1 3 = .ok (.if_icmp .lt 13, 3) := by decide +kernel
theorem d_X12_isLetter_16 : decode mX12_isLetter.2.2.1 16 = .ok (.iconst 0, 1) := by decide +kernel
theorem d_X12_isLetter_17 : decode mX12_isLetter.2.2.1 17 = .ok (.ireturn, 1) := by decide +kernel
theorem d_X12_isLetter_6 : decode mX12_isLetter.2.2.1 6 = .ok (.iload_n 0, 1) := by decide +kernel
theorem d_X12_isLetter_7 : decode mX12_isLetter.2.2.1 7 = .ok (.bipush 122, 2) := by decide +kernel
theorem d_X12_isLetter_9 : decode mX12_isLetter.2.2.1 9 = .ok (.if_icmp .gt 7, 3) := by decide +kernel
theorem d_X12_isLetter_12 : decode mX12_isLetter.2.2.1 12 = .ok (.iconst 1, 1) := by decide +kernel
theorem d_X12_isLetter_13 : decode mX12_isLetter.2.2.1 13 = .ok (.goto 4, 3) := by decide +kernel
theorem ok_X12_isLetter : e_m mX12_isLetter 1 := ⟨tblG_in (inT8 (List.mem_of_getElem? (i := 98) rfl)) rfl, plainFor_of_name (by decide), rfl, ini_12, by decide +kernel, by decide⟩
theorem d_X12_next_74 : decode mX12_next.2.2.1 74 = .ok (.istore_n 2, 1) := by decide +kernel
theorem d_X12_next_75 : decode mX12_next.2.2.1 75 = .ok (.aload_n 0, 1) := by decide +kernel
theorem d_X12_next_76 : decode mX12_next.2.2.1 76 = .ok (.getfield 7, 3) := by decide +kernel
theorem d_X12_next_79 : decode mX12_next.2.2.1 79 = .ok (.iload_n 1, 1) := by decide +kernel
theorem d_X12_next_80 : decode mX12_next.2.2.1 80 = .ok (.iaload, 1) := by decide +kernel
theorem d_X12_next_81 : decode mX12_next.2.2.1 81 = .ok (.invokestatic 386, 3) := by decide +kernel
def mX12_isDigit : MD := (12, yX12_isDigit, cX12_isDigit, 1, some .boolean)
theorem s_12_386 : e_siteS 12 386 mX12_isDigit := ⟨tblG_in (inT8 (List.mem_of_getElem? (i := 99) rfl)) rfl, tblG_in (inT8 (List.mem_of_getElem? (i := 100) rfl)) rfl⟩
theorem d_X12_isDigit_0 : decode mX12_isDigit.2.2.1 0 = .ok (.iload_n 0, 1) := by decide +kernel
theorem d_X12_isDigit_1 : decode mX12_isDigit.2.2.1 1 = .ok (.bipush 48, 2) := by decide +kernel
theorem d_X12_isDigit_3 : decode mX12_isDigit.2.2.1 3 = .ok (.if_icmp .lt 13, 3) := by decide +kernel
theorem d_X12_isDigit_16 : decode mX12_isDigit.2.2.1 16 = .ok (.iconst 0, 1) := by decide +kernel
theorem d_X12_isDigit_17 : decode mX12_isDigit.2.2.1 17 = .ok (.ireturn, 1) := by decide +kernel
theorem d_X12_isDigit_6 : decode mX12_isDigit.2.2.1 6 = .ok (.iload_n 0, 1) := by decide +kernel
theorem d_X12_isDigit_7 : decode mX12_isDigit.2.2.1 7 = .ok (.bipush 57, 2) := by decide +kernel
theorem d_X12_isDigit_9 : decode mX12_isDigit.2.2.1 9 = .ok (.if_icmp .gt 7, 3) := by decide +kernel
theorem d_X12_isDigit_12 : decode mX12_isDigit.2.2.1 12 = .ok (.iconst 1, 1) := by decide +kernel
theorem d_X12_isDigit_13 : decode mX12_isDigit.2.2.1 13 = .ok (.goto 4, 3) := by decide +kernel
theorem ok_X12_isDigit : e_m mX12_isDigit 1 := ⟨tblG_in (inT8 (List.mem_of_getElem? (i := 101) rfl)) rfl, plainFor_of_name (by decide), rfl, ini_12, by decide +kernel, by decide⟩
theorem d_X12_next_84 : decode mX12_next.2.2.1 84 = .ok (.istore_n 3, 1) := by decide +kernel
theorem d_X12_next_85 : decode mX12_next.2.2.1 85 = .ok (.iload_n 2, 1) := by decide +kernel
theorem d_X12_next_86 : decode mX12_next.2.2.1 86 = .ok (.ifCond .ne 7, 3) := by decide +kernel
theorem d_X12_next_89 : decode mX12_next.2.2.1 89 = .ok (.iload_n 3, 1) := by decide +kernel
theorem d_X12_next_90 : decode mX12_next.2.2.1 90 = .ok (.ifCond .eq 41, 3) := by decide +kernel
theorem d_X12_next_64 : decode mX12_next.2.2.1 64 = .ok (.return_, 1) := by decide +kernel
theorem d_X12_next_93 : decode mX12_next.2.2.1 93 = .ok (.iload_n 1, 1) := by decide +kernel
theorem d_X12_next_94 : decode mX12_next.2.2.1 94 = .ok (.ifCond .le 37, 3) := by decide +kernel
theorem d_X12_next_97 : decode mX12_next.2.2.1 97 = .ok (.aload_n 0, 1) := by decide +kernel
theorem d_X12_next_98 : decode mX12_next.2.2.1 98 = .ok (.getfield 7, 3) := by decide +kernel
theorem d_X12_next_101 : decode mX12_next.2.2.1 101 = .ok (.iload_n 1, 1) := by decide +kernel
theorem d_X12_next_102 : decode mX12_next.2.2.1 102 = .ok (.iconst 1, 1) := by decide +kernel
theorem d_X12_next_103 : decode mX12_next.2.2.1 103 = .ok (.isub, 1) := by decide +kernel
theorem d_X12_next_104 : decode mX12_next.2.2.1 104 = .ok (.iaload, 1) := by decide +kernel
theorem d_X12_next_105 : decode mX12_next.2.2.1 105 = .ok (.invokestatic 382, 3) := by decide +kernel
theorem d_X12_next_108 : decode mX12_next.2.2.1 108 = .ok (.ifCond .ne 17, 3) := by decide +kernel
theorem d_X12_next_111 : decode mX12_next.2.2.1 111 = .ok (.aload_n 0, 1) := by decide +kernel
theorem d_X12_next_112 : decode mX12_next.2.2.1 112 = .ok (.getfield 7, 3) := by decide +kernel
theorem d_X12_next_115 : decode mX12_next.2.2.1 115 = .ok (.iload_n 1, 1) := by decide +kernel
theorem d_X12_next_116 : decode mX12_next.2.2.1 116 = .ok (.iconst 1, 1) := by decide +kernel
theorem d_X12_next_117 : decode mX12_next.2.2.1 117 = .ok (.isub, 1) := by decide +kernel
theorem d_X12_next_118 : decode mX12_next.2.2.1 118 = .ok (.iaload, 1) := by decide +kernel
theorem d_X12_next_119 : decode mX12_next.2.2.1 119 = .ok (.invokestatic 386, 3) := by decide +kernel
theorem d_X12_next_122 : decode mX12_next.2.2.1 122 = .ok (.ifCond .eq 9, 3) := by decide +kernel
theorem d_X12_next_125 : decode mX12_next.2.2.1 125 = .ok (.aload_n 0, 1) := by decide +kernel
theorem d_X12_next_126 : decode mX12_next.2.2.1 126 = .ok (.iconst 1, 1) := by decide +kernel
theorem d_X12_next_127 : decode mX12_next.2.2.1 127 = .ok (.iload_n 1, 1) := by decide +kernel
theorem d_X12_next_128 : decode mX12_next.2.2.1 128 = .ok (.invokevirtual 389, 3) := by decide +kernel
def mX12_blame : MD := (12, yX12_blame, cX12_blame, 3, none)
theorem sel_X12_blame : Cond.instanceMethod mX12_blame.2.1 ∈ tblG ∧ Cond.selects mX12_blame.2.1.cls mX12_blame.2.1 mX12_blame.2.1 ∈ tblG := ⟨tblG_in (inT8 (List.mem_of_getElem? (i := 104) rfl)) rfl, tblG_in (inP5 (q := (mX12_blame.2.1, 121)) (List.mem_of_getElem? (i := 10) rfl)) rfl⟩
theorem s_12_389 : e_siteV 12 389 mX12_blame 12 := ⟨tblG_in (inT8 (List.mem_of_getElem? (i := 102) rfl)) rfl, sel_X12_blame.1, sel_X12_blame.2, rfl⟩
theorem d_X12_blame_0 : decode mX12_blame.2.2.1 0 = .ok (.aload_n 0, 1) := by decide +kernel
theorem d_X12_blame_1 : decode mX12_blame.2.2.1 1 = .ok (.getfield 36, 3) := by decide +kernel
theorem d_X12_blame_4 : decode mX12_blame.2.2.1 4 = .ok (.ifCond .le 4, 3) := by decide +kernel
theorem d_X12_blame_8 : decode mX12_blame.2.2.1 8 = .ok (.aload_n 0, 1) := by decide +kernel
theorem d_X12_blame_9 : decode mX12_blame.2.2.1 9 = .ok (.iload_n 1, 1) := by decide +kernel
theorem d_X12_blame_10 : decode mX12_blame.2.2.1 10 = .ok (.putfield 36, 3) := by decide +kernel
theorem d_X12_blame_13 : decode mX12_blame.2.2.1 13 = .ok (.aload_n 0, 1) := by decide +kernel
theorem d_X12_blame_14 : decode mX12_blame.2.2.1 14 = .ok (.iload_n 2, 1) := by decide +kernel
theorem d_X12_blame_15 : decode mX12_blame.2.2.1 15 = .ok (.putfield 39, 3) := by decide +kernel
theorem d_X12_blame_18 : decode mX12_blame.2.2.1 18 = .ok (.return_, 1) := by decide +kernel
theorem d_X12_blame_7 : decode mX12_blame.2.2.1 7 = .ok (.return_, 1) := by decide +kernel
theorem ok_X12_blame : e_m mX12_blame 2 := ⟨tblG_in (inT8 (List.mem_of_getElem? (i := 105) rfl)) rfl, plainFor_of_name (by decide), rfl, ini_12, by decide +kernel, by decide⟩
theorem d_X12_next_131 : decode mX12_next.2.2.1 131 = .ok (.aload_n 0, 1) := by decide +kernel
theorem d_X12_next_132 : decode mX12_next.2.2.1 132 = .ok (.iconst 0, 1) := by decide +kernel
theorem d_X12_next_133 : decode mX12_next.2.2.1 133 = .ok (.putfield 29, 3) := by decide +kernel
theorem d_X12_next_136 : decode mX12_next.2.2.1 136 = .ok (.aload_n 0, 1) := by decide +kernel
theorem d_X12_next_137 : decode mX12_next.2.2.1 137 = .ok (.lconst 0, 1) := by decide +kernel
