theorem s_12_493 : e_siteV 12 493 mX12_asked 12 := ⟨tblG_in (inT8 (List.mem_of_getElem? (i := 216) rfl)) rfl, sel_X12_asked.1, sel_X12_asked.2, rfl⟩
theorem d_X12_asked_0 : decode mX12_asked.2.2.1 0 = .ok (.aload_n 0, 1) := by decide +kernel
theorem d_X12_asked_1 : decode mX12_asked.2.2.1 1 = .ok (.getfield 36, 3) := by decide +kernel
theorem d_X12_asked_4 : decode mX12_asked.2.2.1 4 = .ok (.ifCond .le 5, 3) := by decide +kernel
theorem d_X12_asked_9 : decode mX12_asked.2.2.1 9 = .ok (.aload_n 0, 1) := by decide +kernel
theorem d_X12_asked_10 : decode mX12_asked.2.2.1 10 = .ok (.getfield 20, 3) := by decide +kernel
theorem d_X12_asked_13 : decode mX12_asked.2.2.1 13 = .ok (.iconst 1, 1) := by decide +kernel
theorem d_X12_asked_14 : decode mX12_asked.2.2.1 14 = .ok (.if_icmp .ne 14, 3) := by decide +kernel
theorem d_X12_asked_17 : decode mX12_asked.2.2.1 17 = .ok (.aload_n 0, 1) := by decide +kernel
theorem d_X12_asked_18 : decode mX12_asked.2.2.1 18 = .ok (.aload_n 0, 1) := by decide +kernel
theorem d_X12_asked_19 : decode mX12_asked.2.2.1 19 = .ok (.getfield 32, 3) := by decide +kernel
theorem d_X12_asked_22 : decode mX12_asked.2.2.1 22 = .ok (.invokevirtual 453, 3) := by decide +kernel
theorem d_X12_asked_25 : decode mX12_asked.2.2.1 25 = .ok (.ifCond .eq 12, 3) := by decide +kernel
theorem d_X12_asked_7 : decode mX12_asked.2.2.1 7 = .ok (.iconst 0, 1) := by decide +kernel
theorem d_X12_asked_8 : decode mX12_asked.2.2.1 8 = .ok (.ireturn, 1) := by decide +kernel
theorem d_X12_asked_28 : decode mX12_asked.2.2.1 28 = .ok (.aload_n 0, 1) := by decide +kernel
theorem d_X12_asked_29 : decode mX12_asked.2.2.1 29 = .ok (.iconst 1, 1) := by decide +kernel
theorem d_X12_asked_30 : decode mX12_asked.2.2.1 30 = .ok (.aload_n 0, 1) := by decide +kernel
theorem d_X12_asked_31 : decode mX12_asked.2.2.1 31 = .ok (.getfield 23, 3) := by decide +kernel
theorem d_X12_asked_34 : decode mX12_asked.2.2.1 34 = .ok (.invokevirtual 389, 3) := by decide +kernel
theorem d_X12_asked_37 : decode mX12_asked.2.2.1 37 = .ok (.aload_n 0, 1) := by decide +kernel
theorem d_X12_asked_38 : decode mX12_asked.2.2.1 38 = .ok (.getfield 36, 3) := by decide +kernel
theorem d_X12_asked_41 : decode mX12_asked.2.2.1 41 = .ok (.ifCond .le 7, 3) := by decide +kernel
theorem d_X12_asked_48 : decode mX12_asked.2.2.1 48 = .ok (.iload_n 1, 1) := by decide +kernel
theorem d_X12_asked_49 : decode mX12_asked.2.2.1 49 = .ok (.ifCond .ne 14, 3) := by decide +kernel
theorem d_X12_asked_63 : decode mX12_asked.2.2.1 63 = .ok (.aload_n 0, 1) := by decide +kernel
theorem d_X12_asked_64 : decode mX12_asked.2.2.1 64 = .ok (.aload_n 0, 1) := by decide +kernel
theorem d_X12_asked_65 : decode mX12_asked.2.2.1 65 = .ok (.getfield 32, 3) := by decide +kernel
theorem d_X12_asked_68 : decode mX12_asked.2.2.1 68 = .ok (.invokevirtual 464, 3) := by decide +kernel
theorem d_X12_asked_52 : decode mX12_asked.2.2.1 52 = .ok (.aload_n 0, 1) := by decide +kernel
theorem d_X12_asked_53 : decode mX12_asked.2.2.1 53 = .ok (.aload_n 0, 1) := by decide +kernel
theorem d_X12_asked_54 : decode mX12_asked.2.2.1 54 = .ok (.getfield 32, 3) := by decide +kernel
theorem d_X12_asked_57 : decode mX12_asked.2.2.1 57 = .ok (.invokevirtual 457, 3) := by decide +kernel
theorem d_X12_asked_60 : decode mX12_asked.2.2.1 60 = .ok (.goto 11, 3) := by decide +kernel
theorem d_X12_asked_44 : decode mX12_asked.2.2.1 44 = .ok (.iconst 0, 1) := by decide +kernel
theorem d_X12_asked_45 : decode mX12_asked.2.2.1 45 = .ok (.goto 26, 3) := by decide +kernel
theorem d_X12_asked_71 : decode mX12_asked.2.2.1 71 = .ok (.istore_n 2, 1) := by decide +kernel
theorem d_X12_asked_72 : decode mX12_asked.2.2.1 72 = .ok (.aload_n 0, 1) := by decide +kernel
theorem d_X12_asked_73 : decode mX12_asked.2.2.1 73 = .ok (.getfield 36, 3) := by decide +kernel
theorem d_X12_asked_76 : decode mX12_asked.2.2.1 76 = .ok (.ifCond .ne 17, 3) := by decide +kernel
theorem d_X12_asked_79 : decode mX12_asked.2.2.1 79 = .ok (.iload_n 2, 1) := by decide +kernel
theorem d_X12_asked_80 : decode mX12_asked.2.2.1 80 = .ok (.iconst (-1), 1) := by decide +kernel
theorem d_X12_asked_81 : decode mX12_asked.2.2.1 81 = .ok (.if_icmp .ne 12, 3) := by decide +kernel
theorem d_X12_asked_84 : decode mX12_asked.2.2.1 84 = .ok (.aload_n 0, 1) := by decide +kernel
theorem d_X12_asked_85 : decode mX12_asked.2.2.1 85 = .ok (.iconst 3, 1) := by decide +kernel
theorem d_X12_asked_86 : decode mX12_asked.2.2.1 86 = .ok (.aload_n 0, 1) := by decide +kernel
theorem d_X12_asked_87 : decode mX12_asked.2.2.1 87 = .ok (.getfield 23, 3) := by decide +kernel
theorem d_X12_asked_90 : decode mX12_asked.2.2.1 90 = .ok (.invokevirtual 389, 3) := by decide +kernel
theorem d_X12_asked_93 : decode mX12_asked.2.2.1 93 = .ok (.aload_n 0, 1) := by decide +kernel
theorem d_X12_asked_94 : decode mX12_asked.2.2.1 94 = .ok (.getfield 36, 3) := by decide +kernel
theorem d_X12_asked_97 : decode mX12_asked.2.2.1 97 = .ok (.ifCond .ne 7, 3) := by decide +kernel
theorem d_X12_asked_104 : decode mX12_asked.2.2.1 104 = .ok (.iload_n 2, 1) := by decide +kernel
theorem d_X12_asked_105 : decode mX12_asked.2.2.1 105 = .ok (.ireturn, 1) := by decide +kernel
theorem d_X12_asked_100 : decode mX12_asked.2.2.1 100 = .ok (.aload_n 0, 1) := by decide +kernel
theorem d_X12_asked_101 : decode mX12_asked.2.2.1 101 = .ok (.invokevirtual 396, 3) := by decide +kernel
theorem ok_X12_asked : e_m mX12_asked 1 := ⟨tblG_in (inT8 (List.mem_of_getElem? (i := 219) rfl)) rfl, plainFor_of_name (by decide), rfl, ini_12, by decide +kernel, by decide⟩
theorem d_X12_statement_104 : decode mX12_statement.2.2.1 104 = .ok (.iastore, 1) := by decide +kernel
theorem d_X12_statement_105 : decode mX12_statement.2.2.1 105 = .ok (.aload_n 0, 1) := by decide +kernel
theorem d_X12_statement_106 : decode mX12_statement.2.2.1 106 = .ok (.getfield 36, 3) := by decide +kernel
theorem d_X12_statement_109 : decode mX12_statement.2.2.1 109 = .ok (.ifCond .ne 9, 3) := by decide +kernel
theorem d_X12_statement_112 : decode mX12_statement.2.2.1 112 = .ok (.aload_n 0, 1) := by decide +kernel
theorem d_X12_statement_113 : decode mX12_statement.2.2.1 113 = .ok (.bipush 61, 2) := by decide +kernel
theorem d_X12_statement_115 : decode mX12_statement.2.2.1 115 = .ok (.invokevirtual 529, 3) := by decide +kernel
theorem d_X12_statement_56 : decode mX12_statement.2.2.1 56 = .ok (.return_, 1) := by decide +kernel
theorem d_X12_statement_118 : decode mX12_statement.2.2.1 118 = .ok (.iload_n 1, 1) := by decide +kernel
theorem d_X12_statement_119 : decode mX12_statement.2.2.1 119 = .ok (.iconst 2, 1) := by decide +kernel
theorem d_X12_statement_120 : decode mX12_statement.2.2.1 120 = .ok (.if_icmp .eq 13, 3) := by decide +kernel
theorem d_X12_statement_123 : decode mX12_statement.2.2.1 123 = .ok (.iload_n 1, 1) := by decide +kernel
theorem d_X12_statement_124 : decode mX12_statement.2.2.1 124 = .ok (.iconst 3, 1) := by decide +kernel
theorem d_X12_statement_125 : decode mX12_statement.2.2.1 125 = .ok (.if_icmp .eq 8, 3) := by decide +kernel
theorem d_X12_statement_128 : decode mX12_statement.2.2.1 128 = .ok (.iload_n 1, 1) := by decide +kernel
theorem d_X12_statement_129 : decode mX12_statement.2.2.1 129 = .ok (.iconst 4, 1) := by decide +kernel
theorem d_X12_statement_130 : decode mX12_statement.2.2.1 130 = .ok (.if_icmp .ne 14, 3) := by decide +kernel
theorem d_X12_statement_133 : decode mX12_statement.2.2.1 133 = .ok (.aload_n 0, 1) := by decide +kernel
theorem d_X12_statement_134 : decode mX12_statement.2.2.1 134 = .ok (.getfield 103, 3) := by decide +kernel
theorem d_X12_statement_137 : decode mX12_statement.2.2.1 137 = .ok (.iload_n 2, 1) := by decide +kernel
theorem d_X12_statement_138 : decode mX12_statement.2.2.1 138 = .ok (.aload_n 0, 1) := by decide +kernel
theorem d_X12_statement_139 : decode mX12_statement.2.2.1 139 = .ok (.iconst 0, 1) := by decide +kernel
theorem d_X12_statement_140 : decode mX12_statement.2.2.1 140 = .ok (.invokevirtual 493, 3) := by decide +kernel
theorem d_X12_statement_143 : decode mX12_statement.2.2.1 143 = .ok (.iastore, 1) := by decide +kernel
theorem d_X12_statement_144 : decode mX12_statement.2.2.1 144 = .ok (.aload_n 0, 1) := by decide +kernel
theorem d_X12_statement_145 : decode mX12_statement.2.2.1 145 = .ok (.getfield 106, 3) := by decide +kernel
theorem d_X12_statement_148 : decode mX12_statement.2.2.1 148 = .ok (.iload_n 2, 1) := by decide +kernel
theorem d_X12_statement_149 : decode mX12_statement.2.2.1 149 = .ok (.aload_n 0, 1) := by decide +kernel
theorem d_X12_statement_150 : decode mX12_statement.2.2.1 150 = .ok (.getfield 121, 3) := by decide +kernel
theorem d_X12_statement_153 : decode mX12_statement.2.2.1 153 = .ok (.iastore, 1) := by decide +kernel
theorem d_X12_statement_154 : decode mX12_statement.2.2.1 154 = .ok (.iload_n 1, 1) := by decide +kernel
theorem d_X12_statement_155 : decode mX12_statement.2.2.1 155 = .ok (.iconst 3, 1) := by decide +kernel
theorem d_X12_statement_156 : decode mX12_statement.2.2.1 156 = .ok (.if_icmp .eq 23, 3) := by decide +kernel
theorem d_X12_statement_159 : decode mX12_statement.2.2.1 159 = .ok (.iload_n 1, 1) := by decide +kernel
theorem d_X12_statement_160 : decode mX12_statement.2.2.1 160 = .ok (.iconst 4, 1) := by decide +kernel
theorem d_X12_statement_161 : decode mX12_statement.2.2.1 161 = .ok (.if_icmp .eq 18, 3) := by decide +kernel
theorem d_X12_statement_164 : decode mX12_statement.2.2.1 164 = .ok (.aload_n 0, 1) := by decide +kernel
theorem d_X12_statement_165 : decode mX12_statement.2.2.1 165 = .ok (.iload_n 1, 1) := by decide +kernel
theorem d_X12_statement_166 : decode mX12_statement.2.2.1 166 = .ok (.bipush 7, 2) := by decide +kernel
theorem d_X12_statement_168 : decode mX12_statement.2.2.1 168 = .ok (.if_icmp .lt 7, 3) := by decide +kernel
theorem d_X12_statement_175 : decode mX12_statement.2.2.1 175 = .ok (.iconst 0, 1) := by decide +kernel
theorem d_X12_statement_171 : decode mX12_statement.2.2.1 171 = .ok (.iconst 1, 1) := by decide +kernel
theorem d_X12_statement_172 : decode mX12_statement.2.2.1 172 = .ok (.goto 4, 3) := by decide +kernel
theorem d_X12_statement_176 : decode mX12_statement.2.2.1 176 = .ok (.invokevirtual 541, 3) := by decide +kernel
def mX12_reads : MD := (12, yX12_reads, cX12_reads, 3, none)
theorem sel_X12_reads : Cond.instanceMethod mX12_reads.2.1 ∈ tblG ∧ Cond.selects mX12_reads.2.1.cls mX12_reads.2.1 mX12_reads.2.1 ∈ tblG := ⟨tblG_in (inT8 (List.mem_of_getElem? (i := 222) rfl)) rfl, tblG_in (inP7 (q := (mX12_reads.2.1, 121)) (List.mem_of_getElem? (i := 0) rfl)) rfl⟩
theorem s_12_541 : e_siteV 12 541 mX12_reads 12 := ⟨tblG_in (inT8 (List.mem_of_getElem? (i := 220) rfl)) rfl, sel_X12_reads.1, sel_X12_reads.2, rfl⟩
theorem d_X12_reads_0 : decode mX12_reads.2.2.1 0 = .ok (.aload_n 0, 1) := by decide +kernel
theorem d_X12_reads_1 : decode mX12_reads.2.2.1 1 = .ok (.getfield 36, 3) := by decide +kernel
theorem d_X12_reads_4 : decode mX12_reads.2.2.1 4 = .ok (.ifCond .le 4, 3) := by decide +kernel
theorem d_X12_reads_8 : decode mX12_reads.2.2.1 8 = .ok (.aload_n 0, 1) := by decide +kernel
theorem d_X12_reads_9 : decode mX12_reads.2.2.1 9 = .ok (.iconst 0, 1) := by decide +kernel
theorem d_X12_reads_10 : decode mX12_reads.2.2.1 10 = .ok (.putfield 143, 3) := by decide +kernel
theorem d_X12_reads_13 : decode mX12_reads.2.2.1 13 = .ok (.aload_n 0, 1) := by decide +kernel
theorem d_X12_reads_14 : decode mX12_reads.2.2.1 14 = .ok (.iconst 0, 1) := by decide +kernel
theorem d_X12_reads_15 : decode mX12_reads.2.2.1 15 = .ok (.putfield 152, 3) := by decide +kernel
theorem d_X12_reads_18 : decode mX12_reads.2.2.1 18 = .ok (.aload_n 0, 1) := by decide +kernel
theorem d_X12_reads_19 : decode mX12_reads.2.2.1 19 = .ok (.iconst 0, 1) := by decide +kernel
theorem d_X12_reads_20 : decode mX12_reads.2.2.1 20 = .ok (.putfield 155, 3) := by decide +kernel
theorem d_X12_reads_23 : decode mX12_reads.2.2.1 23 = .ok (.aload_n 0, 1) := by decide +kernel
theorem d_X12_reads_24 : decode mX12_reads.2.2.1 24 = .ok (.iload_n 1, 1) := by decide +kernel
theorem d_X12_reads_25 : decode mX12_reads.2.2.1 25 = .ok (.ifCond .eq 7, 3) := by decide +kernel
theorem d_X12_reads_32 : decode mX12_reads.2.2.1 32 = .ok (.iconst 0, 1) := by decide +kernel
theorem d_X12_reads_28 : decode mX12_reads.2.2.1 28 = .ok (.iconst 1, 1) := by decide +kernel
theorem d_X12_reads_29 : decode mX12_reads.2.2.1 29 = .ok (.goto 4, 3) := by decide +kernel
theorem d_X12_reads_7 : decode mX12_reads.2.2.1 7 = .ok (.return_, 1) := by decide +kernel
theorem d_X12_reads_33 : decode mX12_reads.2.2.1 33 = .ok (.invokevirtual 478, 3) := by decide +kernel
def mX12_pushes : MD := (12, yX12_pushes, cX12_pushes, 2, none)
theorem sel_X12_pushes : Cond.instanceMethod mX12_pushes.2.1 ∈ tblG ∧ Cond.selects mX12_pushes.2.1.cls mX12_pushes.2.1 mX12_pushes.2.1 ∈ tblG := ⟨tblG_in (inT8 (List.mem_of_getElem? (i := 226) rfl)) rfl, tblG_in (inP7 (q := (mX12_pushes.2.1, 121)) (List.mem_of_getElem? (i := 1) rfl)) rfl⟩
theorem s_12_478 : e_siteV 12 478 mX12_pushes 12 := ⟨tblG_in (inT8 (List.mem_of_getElem? (i := 224) rfl)) rfl, sel_X12_pushes.1, sel_X12_pushes.2, rfl⟩
theorem d_X12_pushes_0 : decode mX12_pushes.2.2.1 0 = .ok (.aload_n 0, 1) := by decide +kernel
theorem d_X12_pushes_1 : decode mX12_pushes.2.2.1 1 = .ok (.getfield 127, 3) := by decide +kernel
theorem d_X12_pushes_4 : decode mX12_pushes.2.2.1 4 = .ok (.aload_n 0, 1) := by decide +kernel
theorem d_X12_pushes_5 : decode mX12_pushes.2.2.1 5 = .ok (.getfield 143, 3) := by decide +kernel
theorem d_X12_pushes_8 : decode mX12_pushes.2.2.1 8 = .ok (.iload_n 1, 1) := by decide +kernel
theorem d_X12_pushes_9 : decode mX12_pushes.2.2.1 9 = .ok (.iastore, 1) := by decide +kernel
theorem d_X12_pushes_10 : decode mX12_pushes.2.2.1 10 = .ok (.aload_n 0, 1) := by decide +kernel
theorem d_X12_pushes_11 : decode mX12_pushes.2.2.1 11 = .ok (.getfield 130, 3) := by decide +kernel
theorem d_X12_pushes_14 : decode mX12_pushes.2.2.1 14 = .ok (.aload_n 0, 1) := by decide +kernel
theorem d_X12_pushes_15 : decode mX12_pushes.2.2.1 15 = .ok (.getfield 143, 3) := by decide +kernel
theorem d_X12_pushes_18 : decode mX12_pushes.2.2.1 18 = .ok (.iconst 0, 1) := by decide +kernel
theorem d_X12_pushes_19 : decode mX12_pushes.2.2.1 19 = .ok (.iastore, 1) := by decide +kernel
theorem d_X12_pushes_20 : decode mX12_pushes.2.2.1 20 = .ok (.aload_n 0, 1) := by decide +kernel
theorem d_X12_pushes_21 : decode mX12_pushes.2.2.1 21 = .ok (.getfield 133, 3) := by decide +kernel
theorem d_X12_pushes_24 : decode mX12_pushes.2.2.1 24 = .ok (.aload_n 0, 1) := by decide +kernel
theorem d_X12_pushes_25 : decode mX12_pushes.2.2.1 25 = .ok (.getfield 143, 3) := by decide +kernel
theorem d_X12_pushes_28 : decode mX12_pushes.2.2.1 28 = .ok (.iconst 1, 1) := by decide +kernel
theorem d_X12_pushes_29 : decode mX12_pushes.2.2.1 29 = .ok (.bastore, 1) := by decide +kernel
theorem d_X12_pushes_30 : decode mX12_pushes.2.2.1 30 = .ok (.aload_n 0, 1) := by decide +kernel
theorem d_X12_pushes_31 : decode mX12_pushes.2.2.1 31 = .ok (.getfield 140, 3) := by decide +kernel
theorem d_X12_pushes_34 : decode mX12_pushes.2.2.1 34 = .ok (.aload_n 0, 1) := by decide +kernel
theorem d_X12_pushes_35 : decode mX12_pushes.2.2.1 35 = .ok (.getfield 143, 3) := by decide +kernel
theorem d_X12_pushes_38 : decode mX12_pushes.2.2.1 38 = .ok (.aload_n 0, 1) := by decide +kernel
theorem d_X12_pushes_39 : decode mX12_pushes.2.2.1 39 = .ok (.getfield 152, 3) := by decide +kernel
theorem d_X12_pushes_42 : decode mX12_pushes.2.2.1 42 = .ok (.iastore, 1) := by decide +kernel
theorem d_X12_pushes_43 : decode mX12_pushes.2.2.1 43 = .ok (.aload_n 0, 1) := by decide +kernel
theorem d_X12_pushes_44 : decode mX12_pushes.2.2.1 44 = .ok (.dup, 1) := by decide +kernel
theorem d_X12_pushes_45 : decode mX12_pushes.2.2.1 45 = .ok (.getfield 143, 3) := by decide +kernel
theorem d_X12_pushes_48 : decode mX12_pushes.2.2.1 48 = .ok (.iconst 1, 1) := by decide +kernel
theorem d_X12_pushes_49 : decode mX12_pushes.2.2.1 49 = .ok (.iadd, 1) := by decide +kernel
theorem d_X12_pushes_50 : decode mX12_pushes.2.2.1 50 = .ok (.putfield 143, 3) := by decide +kernel
theorem d_X12_pushes_53 : decode mX12_pushes.2.2.1 53 = .ok (.return_, 1) := by decide +kernel
theorem ok_X12_pushes : e_m mX12_pushes 1 := ⟨tblG_in (inT8 (List.mem_of_getElem? (i := 227) rfl)) rfl, plainFor_of_name (by decide), rfl, ini_12, by decide +kernel, by decide⟩
theorem d_X12_reads_36 : decode mX12_reads.2.2.1 36 = .ok (.iconst 1, 1) := by decide +kernel
theorem d_X12_reads_37 : decode mX12_reads.2.2.1 37 = .ok (.istore_n 2, 1) := by decide +kernel
theorem d_X12_reads_38 : decode mX12_reads.2.2.1 38 = .ok (.iload_n 2, 1) := by decide +kernel
theorem d_X12_reads_39 : decode mX12_reads.2.2.1 39 = .ok (.ifCond .eq 46, 3) := by decide +kernel
theorem d_X12_reads_42 : decode mX12_reads.2.2.1 42 = .ok (.aload_n 0, 1) := by decide +kernel
theorem d_X12_reads_43 : decode mX12_reads.2.2.1 43 = .ok (.getfield 155, 3) := by decide +kernel
theorem d_X12_reads_46 : decode mX12_reads.2.2.1 46 = .ok (.ifCond .ne 14, 3) := by decide +kernel
theorem d_X12_reads_49 : decode mX12_reads.2.2.1 49 = .ok (.aload_n 0, 1) := by decide +kernel
theorem d_X12_reads_50 : decode mX12_reads.2.2.1 50 = .ok (.aload_n 0, 1) := by decide +kernel
theorem d_X12_reads_51 : decode mX12_reads.2.2.1 51 = .ok (.invokevirtual 499, 3) := by decide +kernel
def mX12_operand : MD := (12, yX12_operand, cX12_operand, 5, some .boolean)
theorem sel_X12_operand : Cond.instanceMethod mX12_operand.2.1 ∈ tblG ∧ Cond.selects mX12_operand.2.1.cls mX12_operand.2.1 mX12_operand.2.1 ∈ tblG := ⟨tblG_in (inT8 (List.mem_of_getElem? (i := 230) rfl)) rfl, tblG_in (inP7 (q := (mX12_operand.2.1, 121)) (List.mem_of_getElem? (i := 2) rfl)) rfl⟩
theorem s_12_499 : e_siteV 12 499 mX12_operand 12 := ⟨tblG_in (inT8 (List.mem_of_getElem? (i := 228) rfl)) rfl, sel_X12_operand.1, sel_X12_operand.2, rfl⟩
theorem d_X12_operand_0 : decode mX12_operand.2.2.1 0 = .ok (.aload_n 0, 1) := by decide +kernel
theorem d_X12_operand_1 : decode mX12_operand.2.2.1 1 = .ok (.getfield 143, 3) := by decide +kernel
theorem d_X12_operand_4 : decode mX12_operand.2.2.1 4 = .ok (.iconst 1, 1) := by decide +kernel
theorem d_X12_operand_5 : decode mX12_operand.2.2.1 5 = .ok (.isub, 1) := by decide +kernel
theorem d_X12_operand_6 : decode mX12_operand.2.2.1 6 = .ok (.istore_n 1, 1) := by decide +kernel
theorem d_X12_operand_7 : decode mX12_operand.2.2.1 7 = .ok (.aload_n 0, 1) := by decide +kernel
theorem d_X12_operand_8 : decode mX12_operand.2.2.1 8 = .ok (.getfield 127, 3) := by decide +kernel
theorem d_X12_operand_11 : decode mX12_operand.2.2.1 11 = .ok (.iload_n 1, 1) := by decide +kernel
theorem d_X12_operand_12 : decode mX12_operand.2.2.1 12 = .ok (.iaload, 1) := by decide +kernel
theorem d_X12_operand_13 : decode mX12_operand.2.2.1 13 = .ok (.invokestatic 481, 3) := by decide +kernel
def mX12_isTest : MD := (12, yX12_isTest, cX12_isTest, 1, some .boolean)
theorem s_12_481 : e_siteS 12 481 mX12_isTest := ⟨tblG_in (inT8 (List.mem_of_getElem? (i := 232) rfl)) rfl, tblG_in (inT8 (List.mem_of_getElem? (i := 233) rfl)) rfl⟩
theorem d_X12_isTest_0 : decode mX12_isTest.2.2.1 0 = .ok (.iload_n 0, 1) := by decide +kernel
theorem d_X12_isTest_1 : decode mX12_isTest.2.2.1 1 = .ok (.iconst 1, 1) := by decide +kernel
theorem d_X12_isTest_2 : decode mX12_isTest.2.2.1 2 = .ok (.if_icmp .eq 8, 3) := by decide +kernel
theorem d_X12_isTest_10 : decode mX12_isTest.2.2.1 10 = .ok (.iconst 1, 1) := by decide +kernel
theorem d_X12_isTest_11 : decode mX12_isTest.2.2.1 11 = .ok (.goto 4, 3) := by decide +kernel
theorem d_X12_isTest_15 : decode mX12_isTest.2.2.1 15 = .ok (.ireturn, 1) := by decide +kernel
theorem d_X12_isTest_5 : decode mX12_isTest.2.2.1 5 = .ok (.iload_n 0, 1) := by decide +kernel
theorem d_X12_isTest_6 : decode mX12_isTest.2.2.1 6 = .ok (.iconst 5, 1) := by decide +kernel
theorem d_X12_isTest_7 : decode mX12_isTest.2.2.1 7 = .ok (.if_icmp .ne 7, 3) := by decide +kernel
theorem d_X12_isTest_14 : decode mX12_isTest.2.2.1 14 = .ok (.iconst 0, 1) := by decide +kernel
theorem ok_X12_isTest : e_m mX12_isTest 1 := ⟨tblG_in (inT8 (List.mem_of_getElem? (i := 234) rfl)) rfl, plainFor_of_name (by decide), rfl, ini_12, by decide +kernel, by decide⟩
theorem d_X12_operand_16 : decode mX12_operand.2.2.1 16 = .ok (.ifCond .eq 16, 3) := by decide +kernel
theorem d_X12_operand_19 : decode mX12_operand.2.2.1 19 = .ok (.aload_n 0, 1) := by decide +kernel
theorem d_X12_operand_20 : decode mX12_operand.2.2.1 20 = .ok (.getfield 133, 3) := by decide +kernel
theorem d_X12_operand_23 : decode mX12_operand.2.2.1 23 = .ok (.iload_n 1, 1) := by decide +kernel
theorem d_X12_operand_24 : decode mX12_operand.2.2.1 24 = .ok (.baload, 1) := by decide +kernel
theorem d_X12_operand_25 : decode mX12_operand.2.2.1 25 = .ok (.ifCond .eq 7, 3) := by decide +kernel
theorem d_X12_operand_28 : decode mX12_operand.2.2.1 28 = .ok (.iconst 1, 1) := by decide +kernel
theorem d_X12_operand_29 : decode mX12_operand.2.2.1 29 = .ok (.goto 4, 3) := by decide +kernel
theorem d_X12_operand_32 : decode mX12_operand.2.2.1 32 = .ok (.iconst 0, 1) := by decide +kernel
theorem d_X12_operand_33 : decode mX12_operand.2.2.1 33 = .ok (.istore_n 2, 1) := by decide +kernel
theorem d_X12_operand_34 : decode mX12_operand.2.2.1 34 = .ok (.iload_n 2, 1) := by decide +kernel
theorem d_X12_operand_35 : decode mX12_operand.2.2.1 35 = .ok (.ifCond .eq 25, 3) := by decide +kernel
theorem d_X12_operand_38 : decode mX12_operand.2.2.1 38 = .ok (.aload_n 0, 1) := by decide +kernel
theorem d_X12_operand_39 : decode mX12_operand.2.2.1 39 = .ok (.ldc2_w 441, 3) := by decide +kernel
theorem d_X12_operand_42 : decode mX12_operand.2.2.1 42 = .ok (.invokevirtual 484, 3) := by decide +kernel
theorem d_X12_operand_45 : decode mX12_operand.2.2.1 45 = .ok (.ifCond .eq 15, 3) := by decide +kernel
theorem d_X12_operand_48 : decode mX12_operand.2.2.1 48 = .ok (.aload_n 0, 1) := by decide +kernel
theorem d_X12_operand_49 : decode mX12_operand.2.2.1 49 = .ok (.bipush 18, 2) := by decide +kernel
theorem d_X12_operand_51 : decode mX12_operand.2.2.1 51 = .ok (.invokevirtual 487, 3) := by decide +kernel
def mX12_holdsBack : MD := (12, yX12_holdsBack, cX12_holdsBack, 2, none)
theorem sel_X12_holdsBack : Cond.instanceMethod mX12_holdsBack.2.1 ∈ tblG ∧ Cond.selects mX12_holdsBack.2.1.cls mX12_holdsBack.2.1 mX12_holdsBack.2.1 ∈ tblG := ⟨tblG_in (inT8 (List.mem_of_getElem? (i := 237) rfl)) rfl, tblG_in (inP7 (q := (mX12_holdsBack.2.1, 121)) (List.mem_of_getElem? (i := 3) rfl)) rfl⟩
theorem s_12_487 : e_siteV 12 487 mX12_holdsBack 12 := ⟨tblG_in (inT8 (List.mem_of_getElem? (i := 235) rfl)) rfl, sel_X12_holdsBack.1, sel_X12_holdsBack.2, rfl⟩
theorem d_X12_holdsBack_0 : decode mX12_holdsBack.2.2.1 0 = .ok (.aload_n 0, 1) := by decide +kernel
theorem d_X12_holdsBack_1 : decode mX12_holdsBack.2.2.1 1 = .ok (.getfield 149, 3) := by decide +kernel
theorem d_X12_holdsBack_4 : decode mX12_holdsBack.2.2.1 4 = .ok (.aload_n 0, 1) := by decide +kernel
theorem d_X12_holdsBack_5 : decode mX12_holdsBack.2.2.1 5 = .ok (.getfield 152, 3) := by decide +kernel
theorem d_X12_holdsBack_8 : decode mX12_holdsBack.2.2.1 8 = .ok (.iload_n 1, 1) := by decide +kernel
theorem d_X12_holdsBack_9 : decode mX12_holdsBack.2.2.1 9 = .ok (.iastore, 1) := by decide +kernel
theorem d_X12_holdsBack_10 : decode mX12_holdsBack.2.2.1 10 = .ok (.aload_n 0, 1) := by decide +kernel
theorem d_X12_holdsBack_11 : decode mX12_holdsBack.2.2.1 11 = .ok (.dup, 1) := by decide +kernel
theorem d_X12_holdsBack_12 : decode mX12_holdsBack.2.2.1 12 = .ok (.getfield 152, 3) := by decide +kernel
theorem d_X12_holdsBack_15 : decode mX12_holdsBack.2.2.1 15 = .ok (.iconst 1, 1) := by decide +kernel
theorem d_X12_holdsBack_16 : decode mX12_holdsBack.2.2.1 16 = .ok (.iadd, 1) := by decide +kernel
theorem d_X12_holdsBack_17 : decode mX12_holdsBack.2.2.1 17 = .ok (.putfield 152, 3) := by decide +kernel
theorem d_X12_holdsBack_20 : decode mX12_holdsBack.2.2.1 20 = .ok (.return_, 1) := by decide +kernel
