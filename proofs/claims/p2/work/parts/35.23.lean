theorem d_X12_statement_211 : decode mX12_statement.2.2.1 211 = .ok (.goto 4, 3) := by decide +kernel
theorem d_X12_statement_196 : decode mX12_statement.2.2.1 196 = .ok (.return_, 1) := by decide +kernel
theorem d_X12_statement_215 : decode mX12_statement.2.2.1 215 = .ok (.iload_n 2, 1) := by decide +kernel
theorem d_X12_statement_216 : decode mX12_statement.2.2.1 216 = .ok (.invokevirtual 534, 3) := by decide +kernel
def mX12_opensBlock : MD := (12, yX12_opensBlock, cX12_opensBlock, 3, none)
theorem sel_X12_opensBlock : Cond.instanceMethod mX12_opensBlock.2.1 ∈ tblG ∧ Cond.selects mX12_opensBlock.2.1.cls mX12_opensBlock.2.1 mX12_opensBlock.2.1 ∈ tblG := ⟨tblG_in (inT8 (List.mem_of_getElem? (i := 206) rfl)) rfl, tblG_in (inP6 (q := (mX12_opensBlock.2.1, 121)) (List.mem_of_getElem? (i := 12) rfl)) rfl⟩
theorem s_12_534 : e_siteV 12 534 mX12_opensBlock 12 := ⟨tblG_in (inT8 (List.mem_of_getElem? (i := 204) rfl)) rfl, sel_X12_opensBlock.1, sel_X12_opensBlock.2, rfl⟩
theorem d_X12_opensBlock_0 : decode mX12_opensBlock.2.2.1 0 = .ok (.aload_n 0, 1) := by decide +kernel
theorem d_X12_opensBlock_1 : decode mX12_opensBlock.2.2.1 1 = .ok (.bipush 123, 2) := by decide +kernel
theorem d_X12_opensBlock_3 : decode mX12_opensBlock.2.2.1 3 = .ok (.invokevirtual 393, 3) := by decide +kernel
theorem d_X12_opensBlock_6 : decode mX12_opensBlock.2.2.1 6 = .ok (.ifCond .ne 12, 3) := by decide +kernel
theorem d_X12_opensBlock_9 : decode mX12_opensBlock.2.2.1 9 = .ok (.aload_n 0, 1) := by decide +kernel
theorem d_X12_opensBlock_10 : decode mX12_opensBlock.2.2.1 10 = .ok (.iconst 1, 1) := by decide +kernel
theorem d_X12_opensBlock_11 : decode mX12_opensBlock.2.2.1 11 = .ok (.aload_n 0, 1) := by decide +kernel
theorem d_X12_opensBlock_12 : decode mX12_opensBlock.2.2.1 12 = .ok (.getfield 23, 3) := by decide +kernel
theorem d_X12_opensBlock_15 : decode mX12_opensBlock.2.2.1 15 = .ok (.invokevirtual 389, 3) := by decide +kernel
theorem d_X12_opensBlock_18 : decode mX12_opensBlock.2.2.1 18 = .ok (.aload_n 0, 1) := by decide +kernel
theorem d_X12_opensBlock_19 : decode mX12_opensBlock.2.2.1 19 = .ok (.getfield 36, 3) := by decide +kernel
theorem d_X12_opensBlock_22 : decode mX12_opensBlock.2.2.1 22 = .ok (.ifCond .ne 21, 3) := by decide +kernel
theorem d_X12_opensBlock_25 : decode mX12_opensBlock.2.2.1 25 = .ok (.aload_n 0, 1) := by decide +kernel
theorem d_X12_opensBlock_26 : decode mX12_opensBlock.2.2.1 26 = .ok (.getfield 146, 3) := by decide +kernel
theorem d_X12_opensBlock_29 : decode mX12_opensBlock.2.2.1 29 = .ok (.bipush 8, 2) := by decide +kernel
theorem d_X12_opensBlock_31 : decode mX12_opensBlock.2.2.1 31 = .ok (.if_icmp .ne 12, 3) := by decide +kernel
theorem d_X12_opensBlock_34 : decode mX12_opensBlock.2.2.1 34 = .ok (.aload_n 0, 1) := by decide +kernel
theorem d_X12_opensBlock_35 : decode mX12_opensBlock.2.2.1 35 = .ok (.iconst 5, 1) := by decide +kernel
theorem d_X12_opensBlock_36 : decode mX12_opensBlock.2.2.1 36 = .ok (.aload_n 0, 1) := by decide +kernel
theorem d_X12_opensBlock_37 : decode mX12_opensBlock.2.2.1 37 = .ok (.getfield 23, 3) := by decide +kernel
theorem d_X12_opensBlock_40 : decode mX12_opensBlock.2.2.1 40 = .ok (.invokevirtual 389, 3) := by decide +kernel
theorem d_X12_opensBlock_43 : decode mX12_opensBlock.2.2.1 43 = .ok (.aload_n 0, 1) := by decide +kernel
theorem d_X12_opensBlock_44 : decode mX12_opensBlock.2.2.1 44 = .ok (.getfield 36, 3) := by decide +kernel
theorem d_X12_opensBlock_47 : decode mX12_opensBlock.2.2.1 47 = .ok (.ifCond .le 4, 3) := by decide +kernel
theorem d_X12_opensBlock_51 : decode mX12_opensBlock.2.2.1 51 = .ok (.aload_n 0, 1) := by decide +kernel
theorem d_X12_opensBlock_52 : decode mX12_opensBlock.2.2.1 52 = .ok (.dup, 1) := by decide +kernel
theorem d_X12_opensBlock_53 : decode mX12_opensBlock.2.2.1 53 = .ok (.getfield 146, 3) := by decide +kernel
theorem d_X12_opensBlock_56 : decode mX12_opensBlock.2.2.1 56 = .ok (.iconst 1, 1) := by decide +kernel
theorem d_X12_opensBlock_57 : decode mX12_opensBlock.2.2.1 57 = .ok (.iadd, 1) := by decide +kernel
theorem d_X12_opensBlock_58 : decode mX12_opensBlock.2.2.1 58 = .ok (.putfield 146, 3) := by decide +kernel
theorem d_X12_opensBlock_61 : decode mX12_opensBlock.2.2.1 61 = .ok (.aload_n 0, 1) := by decide +kernel
theorem d_X12_opensBlock_62 : decode mX12_opensBlock.2.2.1 62 = .ok (.invokevirtual 396, 3) := by decide +kernel
theorem d_X12_opensBlock_65 : decode mX12_opensBlock.2.2.1 65 = .ok (.aload_n 0, 1) := by decide +kernel
theorem d_X12_opensBlock_66 : decode mX12_opensBlock.2.2.1 66 = .ok (.getfield 159, 3) := by decide +kernel
theorem d_X12_opensBlock_69 : decode mX12_opensBlock.2.2.1 69 = .ok (.aload_n 0, 1) := by decide +kernel
theorem d_X12_opensBlock_70 : decode mX12_opensBlock.2.2.1 70 = .ok (.getfield 165, 3) := by decide +kernel
theorem d_X12_opensBlock_73 : decode mX12_opensBlock.2.2.1 73 = .ok (.iload_n 1, 1) := by decide +kernel
theorem d_X12_opensBlock_74 : decode mX12_opensBlock.2.2.1 74 = .ok (.iastore, 1) := by decide +kernel
theorem d_X12_opensBlock_75 : decode mX12_opensBlock.2.2.1 75 = .ok (.aload_n 0, 1) := by decide +kernel
theorem d_X12_opensBlock_76 : decode mX12_opensBlock.2.2.1 76 = .ok (.getfield 162, 3) := by decide +kernel
theorem d_X12_opensBlock_79 : decode mX12_opensBlock.2.2.1 79 = .ok (.aload_n 0, 1) := by decide +kernel
theorem d_X12_opensBlock_80 : decode mX12_opensBlock.2.2.1 80 = .ok (.getfield 165, 3) := by decide +kernel
theorem d_X12_opensBlock_83 : decode mX12_opensBlock.2.2.1 83 = .ok (.iload_n 2, 1) := by decide +kernel
theorem d_X12_opensBlock_84 : decode mX12_opensBlock.2.2.1 84 = .ok (.iastore, 1) := by decide +kernel
theorem d_X12_opensBlock_85 : decode mX12_opensBlock.2.2.1 85 = .ok (.aload_n 0, 1) := by decide +kernel
theorem d_X12_opensBlock_86 : decode mX12_opensBlock.2.2.1 86 = .ok (.dup, 1) := by decide +kernel
theorem d_X12_opensBlock_87 : decode mX12_opensBlock.2.2.1 87 = .ok (.getfield 165, 3) := by decide +kernel
theorem d_X12_opensBlock_90 : decode mX12_opensBlock.2.2.1 90 = .ok (.iconst 1, 1) := by decide +kernel
theorem d_X12_opensBlock_91 : decode mX12_opensBlock.2.2.1 91 = .ok (.iadd, 1) := by decide +kernel
theorem d_X12_opensBlock_92 : decode mX12_opensBlock.2.2.1 92 = .ok (.putfield 165, 3) := by decide +kernel
theorem d_X12_opensBlock_95 : decode mX12_opensBlock.2.2.1 95 = .ok (.return_, 1) := by decide +kernel
theorem d_X12_opensBlock_50 : decode mX12_opensBlock.2.2.1 50 = .ok (.return_, 1) := by decide +kernel
theorem ok_X12_opensBlock : e_m mX12_opensBlock 2 := ⟨tblG_in (inT8 (List.mem_of_getElem? (i := 207) rfl)) rfl, plainFor_of_name (by decide), rfl, ini_12, by decide +kernel, by decide⟩
theorem d_X12_statement_219 : decode mX12_statement.2.2.1 219 = .ok (.goto 9, 3) := by decide +kernel
theorem ok_X12_statement : e_m mX12_statement 0 := ⟨tblG_in (inT8 (List.mem_of_getElem? (i := 211) rfl)) rfl, plainFor_of_name (by decide), rfl, ini_12, by decide +kernel, by decide⟩
theorem d_X12_text_231 : decode mX12_text.2.2.1 231 = .ok (.goto (-48), 3) := by decide +kernel
theorem d_X12_text_211 : decode mX12_text.2.2.1 211 = .ok (.aload_n 0, 1) := by decide +kernel
theorem d_X12_text_212 : decode mX12_text.2.2.1 212 = .ok (.bipush 125, 2) := by decide +kernel
theorem d_X12_text_214 : decode mX12_text.2.2.1 214 = .ok (.invokevirtual 393, 3) := by decide +kernel
theorem d_X12_text_217 : decode mX12_text.2.2.1 217 = .ok (.ifCond .eq 10, 3) := by decide +kernel
theorem d_X12_text_220 : decode mX12_text.2.2.1 220 = .ok (.aload_n 0, 1) := by decide +kernel
theorem d_X12_text_221 : decode mX12_text.2.2.1 221 = .ok (.invokevirtual 547, 3) := by decide +kernel
def mX12_closesBlock : MD := (12, yX12_closesBlock, cX12_closesBlock, 4, none)
theorem sel_X12_closesBlock : Cond.instanceMethod mX12_closesBlock.2.1 ∈ tblG ∧ Cond.selects mX12_closesBlock.2.1.cls mX12_closesBlock.2.1 mX12_closesBlock.2.1 ∈ tblG := ⟨tblG_in (inT8 (List.mem_of_getElem? (i := 198) rfl)) rfl, tblG_in (inP6 (q := (mX12_closesBlock.2.1, 121)) (List.mem_of_getElem? (i := 10) rfl)) rfl⟩
theorem s_12_547 : e_siteV 12 547 mX12_closesBlock 12 := ⟨tblG_in (inT8 (List.mem_of_getElem? (i := 196) rfl)) rfl, sel_X12_closesBlock.1, sel_X12_closesBlock.2, rfl⟩
theorem d_X12_closesBlock_0 : decode mX12_closesBlock.2.2.1 0 = .ok (.aload_n 0, 1) := by decide +kernel
theorem d_X12_closesBlock_1 : decode mX12_closesBlock.2.2.1 1 = .ok (.dup, 1) := by decide +kernel
theorem d_X12_closesBlock_2 : decode mX12_closesBlock.2.2.1 2 = .ok (.getfield 146, 3) := by decide +kernel
theorem d_X12_closesBlock_5 : decode mX12_closesBlock.2.2.1 5 = .ok (.iconst 1, 1) := by decide +kernel
theorem d_X12_closesBlock_6 : decode mX12_closesBlock.2.2.1 6 = .ok (.isub, 1) := by decide +kernel
theorem d_X12_closesBlock_7 : decode mX12_closesBlock.2.2.1 7 = .ok (.putfield 146, 3) := by decide +kernel
theorem d_X12_closesBlock_10 : decode mX12_closesBlock.2.2.1 10 = .ok (.aload_n 0, 1) := by decide +kernel
theorem d_X12_closesBlock_11 : decode mX12_closesBlock.2.2.1 11 = .ok (.dup, 1) := by decide +kernel
theorem d_X12_closesBlock_12 : decode mX12_closesBlock.2.2.1 12 = .ok (.getfield 165, 3) := by decide +kernel
theorem d_X12_closesBlock_15 : decode mX12_closesBlock.2.2.1 15 = .ok (.iconst 1, 1) := by decide +kernel
theorem d_X12_closesBlock_16 : decode mX12_closesBlock.2.2.1 16 = .ok (.isub, 1) := by decide +kernel
theorem d_X12_closesBlock_17 : decode mX12_closesBlock.2.2.1 17 = .ok (.putfield 165, 3) := by decide +kernel
theorem d_X12_closesBlock_20 : decode mX12_closesBlock.2.2.1 20 = .ok (.aload_n 0, 1) := by decide +kernel
theorem d_X12_closesBlock_21 : decode mX12_closesBlock.2.2.1 21 = .ok (.getfield 159, 3) := by decide +kernel
theorem d_X12_closesBlock_24 : decode mX12_closesBlock.2.2.1 24 = .ok (.aload_n 0, 1) := by decide +kernel
theorem d_X12_closesBlock_25 : decode mX12_closesBlock.2.2.1 25 = .ok (.getfield 165, 3) := by decide +kernel
theorem d_X12_closesBlock_28 : decode mX12_closesBlock.2.2.1 28 = .ok (.iaload, 1) := by decide +kernel
theorem d_X12_closesBlock_29 : decode mX12_closesBlock.2.2.1 29 = .ok (.istore_n 1, 1) := by decide +kernel
theorem d_X12_closesBlock_30 : decode mX12_closesBlock.2.2.1 30 = .ok (.aload_n 0, 1) := by decide +kernel
theorem d_X12_closesBlock_31 : decode mX12_closesBlock.2.2.1 31 = .ok (.getfield 162, 3) := by decide +kernel
theorem d_X12_closesBlock_34 : decode mX12_closesBlock.2.2.1 34 = .ok (.aload_n 0, 1) := by decide +kernel
theorem d_X12_closesBlock_35 : decode mX12_closesBlock.2.2.1 35 = .ok (.getfield 165, 3) := by decide +kernel
theorem d_X12_closesBlock_38 : decode mX12_closesBlock.2.2.1 38 = .ok (.iaload, 1) := by decide +kernel
theorem d_X12_closesBlock_39 : decode mX12_closesBlock.2.2.1 39 = .ok (.istore_n 2, 1) := by decide +kernel
theorem d_X12_closesBlock_40 : decode mX12_closesBlock.2.2.1 40 = .ok (.aload_n 0, 1) := by decide +kernel
theorem d_X12_closesBlock_41 : decode mX12_closesBlock.2.2.1 41 = .ok (.invokevirtual 396, 3) := by decide +kernel
theorem d_X12_closesBlock_44 : decode mX12_closesBlock.2.2.1 44 = .ok (.aload_n 0, 1) := by decide +kernel
theorem d_X12_closesBlock_45 : decode mX12_closesBlock.2.2.1 45 = .ok (.getfield 36, 3) := by decide +kernel
theorem d_X12_closesBlock_48 : decode mX12_closesBlock.2.2.1 48 = .ok (.ifCond .le 4, 3) := by decide +kernel
theorem d_X12_closesBlock_52 : decode mX12_closesBlock.2.2.1 52 = .ok (.iload_n 1, 1) := by decide +kernel
theorem d_X12_closesBlock_53 : decode mX12_closesBlock.2.2.1 53 = .ok (.iconst 2, 1) := by decide +kernel
theorem d_X12_closesBlock_54 : decode mX12_closesBlock.2.2.1 54 = .ok (.if_icmp .ne 24, 3) := by decide +kernel
theorem d_X12_closesBlock_57 : decode mX12_closesBlock.2.2.1 57 = .ok (.aload_n 0, 1) := by decide +kernel
theorem d_X12_closesBlock_58 : decode mX12_closesBlock.2.2.1 58 = .ok (.getfield 112, 3) := by decide +kernel
theorem d_X12_closesBlock_61 : decode mX12_closesBlock.2.2.1 61 = .ok (.aload_n 0, 1) := by decide +kernel
theorem d_X12_closesBlock_62 : decode mX12_closesBlock.2.2.1 62 = .ok (.iconst 0, 1) := by decide +kernel
theorem d_X12_closesBlock_63 : decode mX12_closesBlock.2.2.1 63 = .ok (.iconst (-1), 1) := by decide +kernel
theorem d_X12_closesBlock_64 : decode mX12_closesBlock.2.2.1 64 = .ok (.invokevirtual 531, 3) := by decide +kernel
theorem d_X12_closesBlock_67 : decode mX12_closesBlock.2.2.1 67 = .ok (.iload_n 2, 1) := by decide +kernel
theorem d_X12_closesBlock_68 : decode mX12_closesBlock.2.2.1 68 = .ok (.sipush 200, 3) := by decide +kernel
theorem d_X12_closesBlock_71 : decode mX12_closesBlock.2.2.1 71 = .ok (.aload_n 0, 1) := by decide +kernel
theorem d_X12_closesBlock_72 : decode mX12_closesBlock.2.2.1 72 = .ok (.getfield 124, 3) := by decide +kernel
theorem d_X12_closesBlock_75 : decode mX12_closesBlock.2.2.1 75 = .ok (.imul, 1) := by decide +kernel
theorem d_X12_closesBlock_76 : decode mX12_closesBlock.2.2.1 76 = .ok (.isub, 1) := by decide +kernel
theorem d_X12_closesBlock_77 : decode mX12_closesBlock.2.2.1 77 = .ok (.iastore, 1) := by decide +kernel
theorem d_X12_closesBlock_51 : decode mX12_closesBlock.2.2.1 51 = .ok (.return_, 1) := by decide +kernel
theorem d_X12_closesBlock_78 : decode mX12_closesBlock.2.2.1 78 = .ok (.iload_n 1, 1) := by decide +kernel
theorem d_X12_closesBlock_79 : decode mX12_closesBlock.2.2.1 79 = .ok (.ifCond .ne 46, 3) := by decide +kernel
theorem d_X12_closesBlock_82 : decode mX12_closesBlock.2.2.1 82 = .ok (.aload_n 0, 1) := by decide +kernel
theorem d_X12_closesBlock_83 : decode mX12_closesBlock.2.2.1 83 = .ok (.ldc2_w 433, 3) := by decide +kernel
theorem d_X12_closesBlock_86 : decode mX12_closesBlock.2.2.1 86 = .ok (.invokevirtual 484, 3) := by decide +kernel
theorem d_X12_closesBlock_89 : decode mX12_closesBlock.2.2.1 89 = .ok (.ifCond .eq 36, 3) := by decide +kernel
theorem d_X12_closesBlock_92 : decode mX12_closesBlock.2.2.1 92 = .ok (.aload_n 0, 1) := by decide +kernel
theorem d_X12_closesBlock_93 : decode mX12_closesBlock.2.2.1 93 = .ok (.iconst 0, 1) := by decide +kernel
theorem d_X12_closesBlock_94 : decode mX12_closesBlock.2.2.1 94 = .ok (.iconst (-1), 1) := by decide +kernel
theorem d_X12_closesBlock_95 : decode mX12_closesBlock.2.2.1 95 = .ok (.invokevirtual 531, 3) := by decide +kernel
theorem d_X12_closesBlock_98 : decode mX12_closesBlock.2.2.1 98 = .ok (.istore_n 3, 1) := by decide +kernel
theorem d_X12_closesBlock_99 : decode mX12_closesBlock.2.2.1 99 = .ok (.aload_n 0, 1) := by decide +kernel
theorem d_X12_closesBlock_100 : decode mX12_closesBlock.2.2.1 100 = .ok (.getfield 112, 3) := by decide +kernel
theorem d_X12_closesBlock_103 : decode mX12_closesBlock.2.2.1 103 = .ok (.iload_n 2, 1) := by decide +kernel
theorem d_X12_closesBlock_104 : decode mX12_closesBlock.2.2.1 104 = .ok (.aload_n 0, 1) := by decide +kernel
theorem d_X12_closesBlock_105 : decode mX12_closesBlock.2.2.1 105 = .ok (.getfield 94, 3) := by decide +kernel
theorem d_X12_closesBlock_108 : decode mX12_closesBlock.2.2.1 108 = .ok (.aload_n 0, 1) := by decide +kernel
theorem d_X12_closesBlock_109 : decode mX12_closesBlock.2.2.1 109 = .ok (.getfield 124, 3) := by decide +kernel
theorem d_X12_closesBlock_112 : decode mX12_closesBlock.2.2.1 112 = .ok (.iaload, 1) := by decide +kernel
theorem d_X12_closesBlock_113 : decode mX12_closesBlock.2.2.1 113 = .ok (.iastore, 1) := by decide +kernel
theorem d_X12_closesBlock_114 : decode mX12_closesBlock.2.2.1 114 = .ok (.aload_n 0, 1) := by decide +kernel
theorem d_X12_closesBlock_115 : decode mX12_closesBlock.2.2.1 115 = .ok (.invokevirtual 396, 3) := by decide +kernel
theorem d_X12_closesBlock_118 : decode mX12_closesBlock.2.2.1 118 = .ok (.aload_n 0, 1) := by decide +kernel
theorem d_X12_closesBlock_119 : decode mX12_closesBlock.2.2.1 119 = .ok (.iconst 1, 1) := by decide +kernel
theorem d_X12_closesBlock_120 : decode mX12_closesBlock.2.2.1 120 = .ok (.iload_n 3, 1) := by decide +kernel
theorem d_X12_closesBlock_121 : decode mX12_closesBlock.2.2.1 121 = .ok (.invokevirtual 534, 3) := by decide +kernel
theorem d_X12_closesBlock_124 : decode mX12_closesBlock.2.2.1 124 = .ok (.return_, 1) := by decide +kernel
theorem d_X12_closesBlock_125 : decode mX12_closesBlock.2.2.1 125 = .ok (.aload_n 0, 1) := by decide +kernel
theorem d_X12_closesBlock_126 : decode mX12_closesBlock.2.2.1 126 = .ok (.getfield 112, 3) := by decide +kernel
theorem d_X12_closesBlock_129 : decode mX12_closesBlock.2.2.1 129 = .ok (.iload_n 2, 1) := by decide +kernel
theorem d_X12_closesBlock_130 : decode mX12_closesBlock.2.2.1 130 = .ok (.aload_n 0, 1) := by decide +kernel
theorem d_X12_closesBlock_131 : decode mX12_closesBlock.2.2.1 131 = .ok (.getfield 94, 3) := by decide +kernel
theorem d_X12_closesBlock_134 : decode mX12_closesBlock.2.2.1 134 = .ok (.aload_n 0, 1) := by decide +kernel
theorem d_X12_closesBlock_135 : decode mX12_closesBlock.2.2.1 135 = .ok (.getfield 124, 3) := by decide +kernel
theorem d_X12_closesBlock_138 : decode mX12_closesBlock.2.2.1 138 = .ok (.iaload, 1) := by decide +kernel
theorem d_X12_closesBlock_139 : decode mX12_closesBlock.2.2.1 139 = .ok (.iastore, 1) := by decide +kernel
theorem d_X12_closesBlock_140 : decode mX12_closesBlock.2.2.1 140 = .ok (.return_, 1) := by decide +kernel
theorem ok_X12_closesBlock : e_m mX12_closesBlock 0 := ⟨tblG_in (inT8 (List.mem_of_getElem? (i := 199) rfl)) rfl, plainFor_of_name (by decide), rfl, ini_12, by decide +kernel, by decide⟩
theorem d_X12_text_224 : decode mX12_text.2.2.1 224 = .ok (.goto (-41), 3) := by decide +kernel
