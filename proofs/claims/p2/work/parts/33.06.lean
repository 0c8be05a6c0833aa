theorem d_X5_piece_99 : decode mX5_piece.2.2.1 99 = .ok (.iconst 1, 1) := by decide +kernel
theorem d_X5_piece_100 : decode mX5_piece.2.2.1 100 = .ok (.goto 4, 3) := by decide +kernel
theorem d_X5_choice_14 : decode mX5_choice.2.2.1 14 = .ok (.aload_n 0, 1) := by decide +kernel
theorem d_X5_choice_15 : decode mX5_choice.2.2.1 15 = .ok (.invokevirtual 174, 3) := by decide +kernel
theorem d_X5_choice_18 : decode mX5_choice.2.2.1 18 = .ok (.ifCond .eq 32, 3) := by decide +kernel
theorem d_X5_choice_21 : decode mX5_choice.2.2.1 21 = .ok (.aload_n 0, 1) := by decide +kernel
theorem d_X5_choice_22 : decode mX5_choice.2.2.1 22 = .ok (.bipush 44, 2) := by decide +kernel
theorem d_X5_choice_24 : decode mX5_choice.2.2.1 24 = .ok (.invokevirtual 81, 3) := by decide +kernel
theorem d_X5_choice_27 : decode mX5_choice.2.2.1 27 = .ok (.ifCond .eq 23, 3) := by decide +kernel
theorem d_X5_choice_30 : decode mX5_choice.2.2.1 30 = .ok (.aload_n 0, 1) := by decide +kernel
theorem d_X5_choice_31 : decode mX5_choice.2.2.1 31 = .ok (.invokevirtual 174, 3) := by decide +kernel
theorem d_X5_choice_34 : decode mX5_choice.2.2.1 34 = .ok (.ifCond .eq 16, 3) := by decide +kernel
theorem d_X5_choice_37 : decode mX5_choice.2.2.1 37 = .ok (.aload_n 0, 1) := by decide +kernel
theorem d_X5_choice_38 : decode mX5_choice.2.2.1 38 = .ok (.bipush 41, 2) := by decide +kernel
theorem d_X5_choice_40 : decode mX5_choice.2.2.1 40 = .ok (.invokevirtual 209, 3) := by decide +kernel
theorem d_X5_choice_43 : decode mX5_choice.2.2.1 43 = .ok (.ifCond .eq 7, 3) := by decide +kernel
theorem d_X5_choice_46 : decode mX5_choice.2.2.1 46 = .ok (.iconst 1, 1) := by decide +kernel
theorem d_X5_choice_47 : decode mX5_choice.2.2.1 47 = .ok (.goto 4, 3) := by decide +kernel
theorem d_X5_plainFact_110 : decode mX5_plainFact.2.2.1 110 = .ok (.ifCond .ne 5, 3) := by decide +kernel
theorem d_X5_plainFact_115 : decode mX5_plainFact.2.2.1 115 = .ok (.aload_n 0, 1) := by decide +kernel
theorem d_X5_plainFact_116 : decode mX5_plainFact.2.2.1 116 = .ok (.bipush 60, 2) := by decide +kernel
theorem d_X5_plainFact_118 : decode mX5_plainFact.2.2.1 118 = .ok (.invokevirtual 77, 3) := by decide +kernel
theorem d_X5_plainFact_121 : decode mX5_plainFact.2.2.1 121 = .ok (.ifCond .eq 8, 3) := by decide +kernel
theorem d_X5_plainFact_129 : decode mX5_plainFact.2.2.1 129 = .ok (.aload_n 0, 1) := by decide +kernel
theorem d_X5_plainFact_130 : decode mX5_plainFact.2.2.1 130 = .ok (.bipush 62, 2) := by decide +kernel
theorem d_X5_plainFact_132 : decode mX5_plainFact.2.2.1 132 = .ok (.invokevirtual 77, 3) := by decide +kernel
theorem d_X5_plainFact_135 : decode mX5_plainFact.2.2.1 135 = .ok (.ifCond .eq 8, 3) := by decide +kernel
theorem d_X5_plainFact_143 : decode mX5_plainFact.2.2.1 143 = .ok (.aload_n 0, 1) := by decide +kernel
theorem d_X5_plainFact_144 : decode mX5_plainFact.2.2.1 144 = .ok (.bipush 61, 2) := by decide +kernel
theorem d_X5_plainFact_146 : decode mX5_plainFact.2.2.1 146 = .ok (.invokevirtual 77, 3) := by decide +kernel
theorem d_X5_plainFact_149 : decode mX5_plainFact.2.2.1 149 = .ok (.ifCond .eq 8, 3) := by decide +kernel
theorem d_X5_plainFact_157 : decode mX5_plainFact.2.2.1 157 = .ok (.iconst (-1), 1) := by decide +kernel
theorem d_X5_plainFact_152 : decode mX5_plainFact.2.2.1 152 = .ok (.bipush 15, 2) := by decide +kernel
theorem d_X5_plainFact_154 : decode mX5_plainFact.2.2.1 154 = .ok (.goto 4, 3) := by decide +kernel
theorem d_X5_plainFact_138 : decode mX5_plainFact.2.2.1 138 = .ok (.bipush 14, 2) := by decide +kernel
theorem d_X5_plainFact_140 : decode mX5_plainFact.2.2.1 140 = .ok (.goto 18, 3) := by decide +kernel
theorem d_X5_plainFact_124 : decode mX5_plainFact.2.2.1 124 = .ok (.bipush 13, 2) := by decide +kernel
theorem d_X5_plainFact_126 : decode mX5_plainFact.2.2.1 126 = .ok (.goto 32, 3) := by decide +kernel
theorem d_X5_plainFact_113 : decode mX5_plainFact.2.2.1 113 = .ok (.iconst 0, 1) := by decide +kernel
theorem d_X5_plainFact_114 : decode mX5_plainFact.2.2.1 114 = .ok (.ireturn, 1) := by decide +kernel
theorem d_X5_plainFact_72 : decode mX5_plainFact.2.2.1 72 = .ok (.aload_n 0, 1) := by decide +kernel
theorem d_X5_plainFact_73 : decode mX5_plainFact.2.2.1 73 = .ok (.invokevirtual 74, 3) := by decide +kernel
theorem d_X5_plainFact_76 : decode mX5_plainFact.2.2.1 76 = .ok (.pop, 1) := by decide +kernel
theorem d_X5_plainFact_77 : decode mX5_plainFact.2.2.1 77 = .ok (.aload_n 0, 1) := by decide +kernel
theorem d_X5_plainFact_78 : decode mX5_plainFact.2.2.1 78 = .ok (.iconst 0, 1) := by decide +kernel
theorem d_X5_plainFact_79 : decode mX5_plainFact.2.2.1 79 = .ok (.invokevirtual 186, 3) := by decide +kernel
theorem d_X5_plainFact_82 : decode mX5_plainFact.2.2.1 82 = .ok (.istore_n 1, 1) := by decide +kernel
theorem d_X5_plainFact_83 : decode mX5_plainFact.2.2.1 83 = .ok (.aload_n 0, 1) := by decide +kernel
theorem d_X5_plainFact_84 : decode mX5_plainFact.2.2.1 84 = .ok (.getfield 32, 3) := by decide +kernel
theorem d_X5_plainFact_87 : decode mX5_plainFact.2.2.1 87 = .ok (.iconst 4, 1) := by decide +kernel
theorem d_X5_plainFact_88 : decode mX5_plainFact.2.2.1 88 = .ok (.iload_n 1, 1) := by decide +kernel
theorem d_X5_plainFact_89 : decode mX5_plainFact.2.2.1 89 = .ok (.iconst 0, 1) := by decide +kernel
theorem d_X5_plainFact_90 : decode mX5_plainFact.2.2.1 90 = .ok (.invokestatic 192, 3) := by decide +kernel
theorem d_X5_plainFact_93 : decode mX5_plainFact.2.2.1 93 = .ok (.invokevirtual 215, 3) := by decide +kernel
theorem d_X5_plainFact_96 : decode mX5_plainFact.2.2.1 96 = .ok (.iload_n 1, 1) := by decide +kernel
theorem d_X5_plainFact_97 : decode mX5_plainFact.2.2.1 97 = .ok (.ifCond .lt 7, 3) := by decide +kernel
theorem d_X5_plainFact_104 : decode mX5_plainFact.2.2.1 104 = .ok (.iconst 0, 1) := by decide +kernel
theorem d_X5_plainFact_105 : decode mX5_plainFact.2.2.1 105 = .ok (.ireturn, 1) := by decide +kernel
theorem d_X5_plainFact_100 : decode mX5_plainFact.2.2.1 100 = .ok (.iconst 1, 1) := by decide +kernel
theorem d_X5_plainFact_101 : decode mX5_plainFact.2.2.1 101 = .ok (.goto 4, 3) := by decide +kernel
theorem d_X5_plainFact_49 : decode mX5_plainFact.2.2.1 49 = .ok (.aload_n 0, 1) := by decide +kernel
theorem d_X5_plainFact_50 : decode mX5_plainFact.2.2.1 50 = .ok (.getfield 32, 3) := by decide +kernel
theorem d_X5_plainFact_53 : decode mX5_plainFact.2.2.1 53 = .ok (.iconst 0, 1) := by decide +kernel
theorem d_X5_plainFact_54 : decode mX5_plainFact.2.2.1 54 = .ok (.iconst 1, 1) := by decide +kernel
theorem d_X5_plainFact_55 : decode mX5_plainFact.2.2.1 55 = .ok (.invokevirtual 215, 3) := by decide +kernel
theorem d_X5_plainFact_58 : decode mX5_plainFact.2.2.1 58 = .ok (.aload_n 0, 1) := by decide +kernel
theorem d_X5_plainFact_59 : decode mX5_plainFact.2.2.1 59 = .ok (.invokevirtual 74, 3) := by decide +kernel
theorem d_X5_plainFact_62 : decode mX5_plainFact.2.2.1 62 = .ok (.ireturn, 1) := by decide +kernel
theorem d_X5_plainFact_9 : decode mX5_plainFact.2.2.1 9 = .ok (.aload_n 0, 1) := by decide +kernel
theorem d_X5_plainFact_10 : decode mX5_plainFact.2.2.1 10 = .ok (.bipush 91, 2) := by decide +kernel
theorem d_X5_plainFact_12 : decode mX5_plainFact.2.2.1 12 = .ok (.invokevirtual 206, 3) := by decide +kernel
theorem d_X5_plainFact_15 : decode mX5_plainFact.2.2.1 15 = .ok (.ifCond .eq 23, 3) := by decide +kernel
theorem d_X5_plainFact_38 : decode mX5_plainFact.2.2.1 38 = .ok (.iconst 0, 1) := by decide +kernel
theorem d_X5_plainFact_39 : decode mX5_plainFact.2.2.1 39 = .ok (.ireturn, 1) := by decide +kernel
theorem d_X5_plainFact_18 : decode mX5_plainFact.2.2.1 18 = .ok (.aload_n 0, 1) := by decide +kernel
theorem d_X5_plainFact_19 : decode mX5_plainFact.2.2.1 19 = .ok (.invokevirtual 177, 3) := by decide +kernel
theorem d_X5_plainFact_158 : decode mX5_plainFact.2.2.1 158 = .ok (.istore_n 1, 1) := by decide +kernel
theorem d_X5_plainFact_159 : decode mX5_plainFact.2.2.1 159 = .ok (.iload_n 1, 1) := by decide +kernel
theorem d_X5_plainFact_160 : decode mX5_plainFact.2.2.1 160 = .ok (.ifCond .ge 9, 3) := by decide +kernel
theorem d_X5_plainFact_169 : decode mX5_plainFact.2.2.1 169 = .ok (.aload_n 0, 1) := by decide +kernel
theorem d_X5_plainFact_170 : decode mX5_plainFact.2.2.1 170 = .ok (.invokevirtual 74, 3) := by decide +kernel
theorem d_X5_plainFact_173 : decode mX5_plainFact.2.2.1 173 = .ok (.pop, 1) := by decide +kernel
theorem d_X5_plainFact_174 : decode mX5_plainFact.2.2.1 174 = .ok (.aload_n 0, 1) := by decide +kernel
theorem d_X5_plainFact_175 : decode mX5_plainFact.2.2.1 175 = .ok (.invokevirtual 174, 3) := by decide +kernel
theorem d_X5_plainFact_178 : decode mX5_plainFact.2.2.1 178 = .ok (.istore_n 2, 1) := by decide +kernel
theorem d_X5_plainFact_179 : decode mX5_plainFact.2.2.1 179 = .ok (.aload_n 0, 1) := by decide +kernel
theorem d_X5_plainFact_180 : decode mX5_plainFact.2.2.1 180 = .ok (.getfield 32, 3) := by decide +kernel
theorem d_X5_plainFact_183 : decode mX5_plainFact.2.2.1 183 = .ok (.iload_n 1, 1) := by decide +kernel
theorem d_X5_plainFact_184 : decode mX5_plainFact.2.2.1 184 = .ok (.iconst 0, 1) := by decide +kernel
theorem d_X5_plainFact_185 : decode mX5_plainFact.2.2.1 185 = .ok (.invokevirtual 215, 3) := by decide +kernel
theorem d_X5_plainFact_188 : decode mX5_plainFact.2.2.1 188 = .ok (.iload_n 2, 1) := by decide +kernel
theorem d_X5_plainFact_189 : decode mX5_plainFact.2.2.1 189 = .ok (.ireturn, 1) := by decide +kernel
theorem d_X5_plainFact_163 : decode mX5_plainFact.2.2.1 163 = .ok (.aload_n 0, 1) := by decide +kernel
theorem d_X5_plainFact_164 : decode mX5_plainFact.2.2.1 164 = .ok (.iconst 1, 1) := by decide +kernel
theorem d_X5_plainFact_165 : decode mX5_plainFact.2.2.1 165 = .ok (.invokevirtual 56, 3) := by decide +kernel
theorem d_X5_plainFact_168 : decode mX5_plainFact.2.2.1 168 = .ok (.ireturn, 1) := by decide +kernel
theorem ok_X5_plainFact : e_m mX5_plainFact 0 := ⟨tblG_in (inT4 (List.mem_of_getElem? (i := 170) rfl)) rfl, plainFor_of_name (by decide), rfl, ini_5, by decide +kernel, by decide⟩
theorem d_X5_fact_45 : decode mX5_fact.2.2.1 45 = .ok (.istore_n 2, 1) := by decide +kernel
theorem d_X5_fact_46 : decode mX5_fact.2.2.1 46 = .ok (.iload_n 1, 1) := by decide +kernel
theorem d_X5_fact_47 : decode mX5_fact.2.2.1 47 = .ok (.ifCond .eq 12, 3) := by decide +kernel
theorem d_X5_fact_59 : decode mX5_fact.2.2.1 59 = .ok (.iload_n 2, 1) := by decide +kernel
theorem d_X5_fact_60 : decode mX5_fact.2.2.1 60 = .ok (.ireturn, 1) := by decide +kernel
theorem d_X5_fact_34 : decode mX5_fact.2.2.1 34 = .ok (.istore_n 1, 1) := by decide +kernel
theorem d_X5_fact_35 : decode mX5_fact.2.2.1 35 = .ok (.iinc 2 1, 3) := by decide +kernel
theorem d_X5_fact_38 : decode mX5_fact.2.2.1 38 = .ok (.goto (-34), 3) := by decide +kernel
theorem d_X5_fact_33 : decode mX5_fact.2.2.1 33 = .ok (.iconst 0, 1) := by decide +kernel
theorem d_X5_fact_50 : decode mX5_fact.2.2.1 50 = .ok (.aload_n 0, 1) := by decide +kernel
theorem d_X5_fact_51 : decode mX5_fact.2.2.1 51 = .ok (.getfield 32, 3) := by decide +kernel
theorem d_X5_fact_54 : decode mX5_fact.2.2.1 54 = .ok (.iconst 5, 1) := by decide +kernel
theorem d_X5_fact_55 : decode mX5_fact.2.2.1 55 = .ok (.iconst 0, 1) := by decide +kernel
theorem d_X5_fact_56 : decode mX5_fact.2.2.1 56 = .ok (.invokevirtual 215, 3) := by decide +kernel
theorem ok_X5_fact : e_m mX5_fact 0 := ⟨tblG_in (inT4 (List.mem_of_getElem? (i := 166) rfl)) rfl, plainFor_of_name (by decide), rfl, ini_5, by decide +kernel, by decide⟩
theorem d_X5_both_4 : decode mX5_both.2.2.1 4 = .ok (.istore_n 1, 1) := by decide +kernel
theorem d_X5_both_5 : decode mX5_both.2.2.1 5 = .ok (.iconst 0, 1) := by decide +kernel
theorem d_X5_both_6 : decode mX5_both.2.2.1 6 = .ok (.istore_n 2, 1) := by decide +kernel
theorem d_X5_both_7 : decode mX5_both.2.2.1 7 = .ok (.iload_n 2, 1) := by decide +kernel
theorem d_X5_both_8 : decode mX5_both.2.2.1 8 = .ok (.sipush 900, 3) := by decide +kernel
theorem d_X5_both_11 : decode mX5_both.2.2.1 11 = .ok (.if_icmp .ge 42, 3) := by decide +kernel
theorem d_X5_both_14 : decode mX5_both.2.2.1 14 = .ok (.iload_n 1, 1) := by decide +kernel
theorem d_X5_both_15 : decode mX5_both.2.2.1 15 = .ok (.ifCond .eq 38, 3) := by decide +kernel
theorem d_X5_both_53 : decode mX5_both.2.2.1 53 = .ok (.iload_n 1, 1) := by decide +kernel
theorem d_X5_both_54 : decode mX5_both.2.2.1 54 = .ok (.ireturn, 1) := by decide +kernel
theorem d_X5_both_18 : decode mX5_both.2.2.1 18 = .ok (.aload_n 0, 1) := by decide +kernel
theorem d_X5_both_19 : decode mX5_both.2.2.1 19 = .ok (.bipush 20, 2) := by decide +kernel
theorem d_X5_both_21 : decode mX5_both.2.2.1 21 = .ok (.invokevirtual 71, 3) := by decide +kernel
theorem d_X5_both_24 : decode mX5_both.2.2.1 24 = .ok (.ifCond .eq 29, 3) := by decide +kernel
theorem d_X5_both_27 : decode mX5_both.2.2.1 27 = .ok (.aload_n 0, 1) := by decide +kernel
theorem d_X5_both_28 : decode mX5_both.2.2.1 28 = .ok (.invokevirtual 74, 3) := by decide +kernel
theorem d_X5_both_31 : decode mX5_both.2.2.1 31 = .ok (.pop, 1) := by decide +kernel
theorem d_X5_both_32 : decode mX5_both.2.2.1 32 = .ok (.aload_n 0, 1) := by decide +kernel
theorem d_X5_both_33 : decode mX5_both.2.2.1 33 = .ok (.invokevirtual 218, 3) := by decide +kernel
theorem d_X5_both_36 : decode mX5_both.2.2.1 36 = .ok (.istore_n 1, 1) := by decide +kernel
theorem d_X5_both_37 : decode mX5_both.2.2.1 37 = .ok (.aload_n 0, 1) := by decide +kernel
theorem d_X5_both_38 : decode mX5_both.2.2.1 38 = .ok (.getfield 32, 3) := by decide +kernel
theorem d_X5_both_41 : decode mX5_both.2.2.1 41 = .ok (.bipush 16, 2) := by decide +kernel
theorem d_X5_both_43 : decode mX5_both.2.2.1 43 = .ok (.iconst 0, 1) := by decide +kernel
theorem d_X5_both_44 : decode mX5_both.2.2.1 44 = .ok (.invokevirtual 215, 3) := by decide +kernel
theorem d_X5_both_47 : decode mX5_both.2.2.1 47 = .ok (.iinc 2 1, 3) := by decide +kernel
theorem d_X5_both_50 : decode mX5_both.2.2.1 50 = .ok (.goto (-43), 3) := by decide +kernel
theorem ok_X5_both : e_m mX5_both 0 := ⟨tblG_in (inT4 (List.mem_of_getElem? (i := 162) rfl)) rfl, plainFor_of_name (by decide), rfl, ini_5, by decide +kernel, by decide⟩
theorem d_X5_test_4 : decode mX5_test.2.2.1 4 = .ok (.istore_n 1, 1) := by decide +kernel
theorem d_X5_test_5 : decode mX5_test.2.2.1 5 = .ok (.iconst 0, 1) := by decide +kernel
theorem d_X5_test_6 : decode mX5_test.2.2.1 6 = .ok (.istore_n 2, 1) := by decide +kernel
theorem d_X5_test_7 : decode mX5_test.2.2.1 7 = .ok (.iload_n 2, 1) := by decide +kernel
theorem d_X5_test_8 : decode mX5_test.2.2.1 8 = .ok (.sipush 900, 3) := by decide +kernel
theorem d_X5_test_11 : decode mX5_test.2.2.1 11 = .ok (.if_icmp .ge 42, 3) := by decide +kernel
theorem d_X5_test_14 : decode mX5_test.2.2.1 14 = .ok (.iload_n 1, 1) := by decide +kernel
theorem d_X5_test_15 : decode mX5_test.2.2.1 15 = .ok (.ifCond .eq 38, 3) := by decide +kernel
theorem d_X5_test_53 : decode mX5_test.2.2.1 53 = .ok (.iload_n 1, 1) := by decide +kernel
theorem d_X5_test_54 : decode mX5_test.2.2.1 54 = .ok (.ireturn, 1) := by decide +kernel
theorem d_X5_test_18 : decode mX5_test.2.2.1 18 = .ok (.aload_n 0, 1) := by decide +kernel
theorem d_X5_test_19 : decode mX5_test.2.2.1 19 = .ok (.bipush 19, 2) := by decide +kernel
theorem d_X5_test_21 : decode mX5_test.2.2.1 21 = .ok (.invokevirtual 71, 3) := by decide +kernel
theorem d_X5_test_24 : decode mX5_test.2.2.1 24 = .ok (.ifCond .eq 29, 3) := by decide +kernel
theorem d_X5_test_27 : decode mX5_test.2.2.1 27 = .ok (.aload_n 0, 1) := by decide +kernel
theorem d_X5_test_28 : decode mX5_test.2.2.1 28 = .ok (.invokevirtual 74, 3) := by decide +kernel
theorem d_X5_test_31 : decode mX5_test.2.2.1 31 = .ok (.pop, 1) := by decide +kernel
theorem d_X5_test_32 : decode mX5_test.2.2.1 32 = .ok (.aload_n 0, 1) := by decide +kernel
theorem d_X5_test_33 : decode mX5_test.2.2.1 33 = .ok (.invokevirtual 212, 3) := by decide +kernel
theorem d_X5_test_36 : decode mX5_test.2.2.1 36 = .ok (.istore_n 1, 1) := by decide +kernel
theorem d_X5_test_37 : decode mX5_test.2.2.1 37 = .ok (.aload_n 0, 1) := by decide +kernel
theorem d_X5_test_38 : decode mX5_test.2.2.1 38 = .ok (.getfield 32, 3) := by decide +kernel
theorem d_X5_test_41 : decode mX5_test.2.2.1 41 = .ok (.bipush 17, 2) := by decide +kernel
theorem d_X5_test_43 : decode mX5_test.2.2.1 43 = .ok (.iconst 0, 1) := by decide +kernel
theorem d_X5_test_44 : decode mX5_test.2.2.1 44 = .ok (.invokevirtual 215, 3) := by decide +kernel
theorem d_X5_test_47 : decode mX5_test.2.2.1 47 = .ok (.iinc 2 1, 3) := by decide +kernel
theorem d_X5_test_50 : decode mX5_test.2.2.1 50 = .ok (.goto (-43), 3) := by decide +kernel
theorem ok_X5_test : e_m mX5_test 0 := ⟨tblG_in (inT4 (List.mem_of_getElem? (i := 158) rfl)) rfl, plainFor_of_name (by decide), rfl, ini_5, by decide +kernel, by decide⟩
theorem d_X5_plainFact_22 : decode mX5_plainFact.2.2.1 22 = .ok (.ifCond .eq 16, 3) := by decide +kernel
theorem d_X5_plainFact_25 : decode mX5_plainFact.2.2.1 25 = .ok (.aload_n 0, 1) := by decide +kernel
theorem d_X5_plainFact_26 : decode mX5_plainFact.2.2.1 26 = .ok (.bipush 93, 2) := by decide +kernel
theorem d_X5_plainFact_28 : decode mX5_plainFact.2.2.1 28 = .ok (.invokevirtual 209, 3) := by decide +kernel
theorem d_X5_plainFact_31 : decode mX5_plainFact.2.2.1 31 = .ok (.ifCond .eq 7, 3) := by decide +kernel
theorem d_X5_plainFact_34 : decode mX5_plainFact.2.2.1 34 = .ok (.iconst 1, 1) := by decide +kernel
theorem d_X5_plainFact_35 : decode mX5_plainFact.2.2.1 35 = .ok (.goto 4, 3) := by decide +kernel
theorem d_X5_order_202 : decode mX5_order.2.2.1 202 = .ok (.ifCond .eq 15, 3) := by decide +kernel
theorem d_X5_order_217 : decode mX5_order.2.2.1 217 = .ok (.iconst 0, 1) := by decide +kernel
theorem d_X5_order_218 : decode mX5_order.2.2.1 218 = .ok (.ireturn, 1) := by decide +kernel
theorem d_X5_order_205 : decode mX5_order.2.2.1 205 = .ok (.aload_n 0, 1) := by decide +kernel
theorem d_X5_order_206 : decode mX5_order.2.2.1 206 = .ok (.iload_n 1, 1) := by decide +kernel
theorem d_X5_order_207 : decode mX5_order.2.2.1 207 = .ok (.invokevirtual 180, 3) := by decide +kernel
theorem sel_X5_yesBlock : Cond.instanceMethod mX5_yesBlock.2.1 ∈ tblG ∧ Cond.selects mX5_yesBlock.2.1.cls mX5_yesBlock.2.1 mX5_yesBlock.2.1 ∈ tblG := ⟨tblG_in (inT4 (List.mem_of_getElem? (i := 173) rfl)) rfl, tblG_in (inP3 (q := (mX5_yesBlock.2.1, 7)) (List.mem_of_getElem? (i := 7) rfl)) rfl⟩
theorem s_5_180 : e_siteV 5 180 mX5_yesBlock 5 := ⟨tblG_in (inT4 (List.mem_of_getElem? (i := 171) rfl)) rfl, sel_X5_yesBlock.1, sel_X5_yesBlock.2, rfl⟩
theorem d_X5_block_12 : decode mX5_block.2.2.1 12 = .ok (.aload_n 0, 1) := by decide +kernel
theorem d_X5_block_13 : decode mX5_block.2.2.1 13 = .ok (.iload_n 1, 1) := by decide +kernel
theorem d_X5_block_14 : decode mX5_block.2.2.1 14 = .ok (.invokevirtual 46, 3) := by decide +kernel
theorem ok_X5_yesBlock : e_m mX5_yesBlock 1 := ⟨tblG_in (inT4 (List.mem_of_getElem? (i := 174) rfl)) rfl, plainFor_of_name (by decide), rfl, ini_5, by decide +kernel, by decide⟩
theorem d_X5_order_210 : decode mX5_order.2.2.1 210 = .ok (.ifCond .eq 7, 3) := by decide +kernel
theorem d_X5_order_169 : decode mX5_order.2.2.1 169 = .ok (.aload_n 0, 1) := by decide +kernel
theorem d_X5_order_170 : decode mX5_order.2.2.1 170 = .ok (.invokevirtual 177, 3) := by decide +kernel
theorem d_X5_order_173 : decode mX5_order.2.2.1 173 = .ok (.ifCond .eq 23, 3) := by decide +kernel
theorem d_X5_order_196 : decode mX5_order.2.2.1 196 = .ok (.iconst 0, 1) := by decide +kernel
theorem d_X5_order_197 : decode mX5_order.2.2.1 197 = .ok (.ireturn, 1) := by decide +kernel
theorem d_X5_order_176 : decode mX5_order.2.2.1 176 = .ok (.aload_n 0, 1) := by decide +kernel
theorem d_X5_order_177 : decode mX5_order.2.2.1 177 = .ok (.iload_n 1, 1) := by decide +kernel
theorem d_X5_order_178 : decode mX5_order.2.2.1 178 = .ok (.invokevirtual 180, 3) := by decide +kernel
theorem d_X5_order_181 : decode mX5_order.2.2.1 181 = .ok (.ifCond .eq 15, 3) := by decide +kernel
theorem d_X5_order_147 : decode mX5_order.2.2.1 147 = .ok (.aload_n 0, 1) := by decide +kernel
theorem d_X5_order_148 : decode mX5_order.2.2.1 148 = .ok (.invokevirtual 174, 3) := by decide +kernel
theorem d_X5_order_151 : decode mX5_order.2.2.1 151 = .ok (.ifCond .eq 16, 3) := by decide +kernel
theorem d_X5_order_167 : decode mX5_order.2.2.1 167 = .ok (.iconst 0, 1) := by decide +kernel
theorem d_X5_order_168 : decode mX5_order.2.2.1 168 = .ok (.ireturn, 1) := by decide +kernel
theorem d_X5_order_154 : decode mX5_order.2.2.1 154 = .ok (.aload_n 0, 1) := by decide +kernel
theorem d_X5_order_155 : decode mX5_order.2.2.1 155 = .ok (.bipush 59, 2) := by decide +kernel
theorem d_X5_order_157 : decode mX5_order.2.2.1 157 = .ok (.invokevirtual 81, 3) := by decide +kernel
theorem d_X5_order_160 : decode mX5_order.2.2.1 160 = .ok (.ifCond .eq 7, 3) := by decide +kernel
theorem d_X5_order_163 : decode mX5_order.2.2.1 163 = .ok (.iconst 1, 1) := by decide +kernel
theorem d_X5_order_164 : decode mX5_order.2.2.1 164 = .ok (.goto 4, 3) := by decide +kernel
theorem d_X5_order_123 : decode mX5_order.2.2.1 123 = .ok (.aload_n 0, 1) := by decide +kernel
theorem d_X5_order_124 : decode mX5_order.2.2.1 124 = .ok (.iload_n 1, 1) := by decide +kernel
theorem d_X5_order_125 : decode mX5_order.2.2.1 125 = .ok (.iconst 0, 1) := by decide +kernel
theorem d_X5_order_126 : decode mX5_order.2.2.1 126 = .ok (.invokevirtual 170, 3) := by decide +kernel
def mX5_about : MD := (5, yX5_about, cX5_about, 4, some .boolean)
theorem sel_X5_about : Cond.instanceMethod mX5_about.2.1 ∈ tblG ∧ Cond.selects mX5_about.2.1.cls mX5_about.2.1 mX5_about.2.1 ∈ tblG := ⟨tblG_in (inT4 (List.mem_of_getElem? (i := 112) rfl)) rfl, tblG_in (inP2 (q := (mX5_about.2.1, 7)) (List.mem_of_getElem? (i := 10) rfl)) rfl⟩
theorem s_5_170 : e_siteV 5 170 mX5_about 5 := ⟨tblG_in (inT4 (List.mem_of_getElem? (i := 110) rfl)) rfl, sel_X5_about.1, sel_X5_about.2, rfl⟩
theorem d_X5_about_0 : decode mX5_about.2.2.1 0 = .ok (.aload_n 0, 1) := by decide +kernel
theorem d_X5_about_1 : decode mX5_about.2.2.1 1 = .ok (.iload_n 2, 1) := by decide +kernel
theorem d_X5_about_2 : decode mX5_about.2.2.1 2 = .ok (.invokevirtual 186, 3) := by decide +kernel
theorem d_X5_about_5 : decode mX5_about.2.2.1 5 = .ok (.istore_n 3, 1) := by decide +kernel
theorem d_X5_about_6 : decode mX5_about.2.2.1 6 = .ok (.aload_n 0, 1) := by decide +kernel
theorem d_X5_about_7 : decode mX5_about.2.2.1 7 = .ok (.getfield 32, 3) := by decide +kernel
theorem d_X5_about_10 : decode mX5_about.2.2.1 10 = .ok (.getfield 189, 3) := by decide +kernel
theorem f_5_189 : e_fld 5 189 4 2 13 2 true := ⟨RX4, TX4, 2, rfl, rfl, by decide, rfl, rfl, rfl, iX4, tblG_in (inT1 (List.mem_of_getElem? (i := 113) rfl)) rfl, tyX4_ok, nmX4⟩
theorem d_X5_about_13 : decode mX5_about.2.2.1 13 = .ok (.iload_n 1, 1) := by decide +kernel
theorem d_X5_about_14 : decode mX5_about.2.2.1 14 = .ok (.iload_n 3, 1) := by decide +kernel
theorem d_X5_about_15 : decode mX5_about.2.2.1 15 = .ok (.iconst 0, 1) := by decide +kernel
theorem d_X5_about_16 : decode mX5_about.2.2.1 16 = .ok (.invokestatic 192, 3) := by decide +kernel
theorem d_X5_about_19 : decode mX5_about.2.2.1 19 = .ok (.iastore, 1) := by decide +kernel
theorem d_X5_about_20 : decode mX5_about.2.2.1 20 = .ok (.iload_n 3, 1) := by decide +kernel
theorem d_X5_about_21 : decode mX5_about.2.2.1 21 = .ok (.ifCond .lt 7, 3) := by decide +kernel
