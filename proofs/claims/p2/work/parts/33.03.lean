theorem d_X5_beginNamed_93 : decode mX5_beginNamed.2.2.1 93 = .ok (.invokevirtual 74, 3) := by decide +kernel
theorem d_X5_beginNamed_96 : decode mX5_beginNamed.2.2.1 96 = .ok (.ireturn, 1) := by decide +kernel
theorem d_X5_beginNamed_66 : decode mX5_beginNamed.2.2.1 66 = .ok (.aload_n 0, 1) := by decide +kernel
theorem d_X5_beginNamed_67 : decode mX5_beginNamed.2.2.1 67 = .ok (.iconst 2, 1) := by decide +kernel
theorem d_X5_beginNamed_68 : decode mX5_beginNamed.2.2.1 68 = .ok (.invokevirtual 56, 3) := by decide +kernel
theorem d_X5_beginNamed_71 : decode mX5_beginNamed.2.2.1 71 = .ok (.ireturn, 1) := by decide +kernel
theorem d_X5_beginNamed_38 : decode mX5_beginNamed.2.2.1 38 = .ok (.aload_n 0, 1) := by decide +kernel
theorem d_X5_beginNamed_39 : decode mX5_beginNamed.2.2.1 39 = .ok (.iconst 1, 1) := by decide +kernel
theorem d_X5_beginNamed_40 : decode mX5_beginNamed.2.2.1 40 = .ok (.invokevirtual 56, 3) := by decide +kernel
theorem d_X5_beginNamed_43 : decode mX5_beginNamed.2.2.1 43 = .ok (.ireturn, 1) := by decide +kernel
theorem d_X5_beginNamed_11 : decode mX5_beginNamed.2.2.1 11 = .ok (.aload_n 0, 1) := by decide +kernel
theorem d_X5_beginNamed_12 : decode mX5_beginNamed.2.2.1 12 = .ok (.iconst 5, 1) := by decide +kernel
theorem d_X5_beginNamed_13 : decode mX5_beginNamed.2.2.1 13 = .ok (.invokevirtual 56, 3) := by decide +kernel
theorem d_X5_beginNamed_16 : decode mX5_beginNamed.2.2.1 16 = .ok (.ireturn, 1) := by decide +kernel
theorem ok_X5_beginNamed : e_m mX5_beginNamed 1 := ⟨tblG_in (inT4 (List.mem_of_getElem? (i := 61) rfl)) rfl, plainFor_of_name (by decide), rfl, ini_5, by decide +kernel, by decide⟩
theorem d_X5_declaration_57 : decode mX5_declaration.2.2.1 57 = .ok (.ifCond .eq 16, 3) := by decide +kernel
theorem d_X5_declaration_73 : decode mX5_declaration.2.2.1 73 = .ok (.iconst 0, 1) := by decide +kernel
theorem d_X5_declaration_74 : decode mX5_declaration.2.2.1 74 = .ok (.ireturn, 1) := by decide +kernel
theorem d_X5_declaration_60 : decode mX5_declaration.2.2.1 60 = .ok (.aload_n 0, 1) := by decide +kernel
theorem d_X5_declaration_61 : decode mX5_declaration.2.2.1 61 = .ok (.bipush 59, 2) := by decide +kernel
theorem d_X5_declaration_63 : decode mX5_declaration.2.2.1 63 = .ok (.invokevirtual 81, 3) := by decide +kernel
theorem d_X5_declaration_66 : decode mX5_declaration.2.2.1 66 = .ok (.ifCond .eq 7, 3) := by decide +kernel
theorem d_X5_declaration_69 : decode mX5_declaration.2.2.1 69 = .ok (.iconst 1, 1) := by decide +kernel
theorem d_X5_declaration_70 : decode mX5_declaration.2.2.1 70 = .ok (.goto 4, 3) := by decide +kernel
theorem d_X5_declaration_47 : decode mX5_declaration.2.2.1 47 = .ok (.aload_n 0, 1) := by decide +kernel
theorem d_X5_declaration_48 : decode mX5_declaration.2.2.1 48 = .ok (.invokevirtual 109, 3) := by decide +kernel
def mX5_input : MD := (5, yX5_input, cX5_input, 4, some .boolean)
theorem sel_X5_input : Cond.instanceMethod mX5_input.2.1 ∈ tblG ∧ Cond.selects mX5_input.2.1.cls mX5_input.2.1 mX5_input.2.1 ∈ tblG := ⟨tblG_in (inT4 (List.mem_of_getElem? (i := 92) rfl)) rfl, tblG_in (inP2 (q := (mX5_input.2.1, 7)) (List.mem_of_getElem? (i := 6) rfl)) rfl⟩
theorem s_5_109 : e_siteV 5 109 mX5_input 5 := ⟨tblG_in (inT4 (List.mem_of_getElem? (i := 90) rfl)) rfl, sel_X5_input.1, sel_X5_input.2, rfl⟩
theorem d_X5_input_0 : decode mX5_input.2.2.1 0 = .ok (.aload_n 0, 1) := by decide +kernel
theorem d_X5_input_1 : decode mX5_input.2.2.1 1 = .ok (.getfield 22, 3) := by decide +kernel
theorem d_X5_input_4 : decode mX5_input.2.2.1 4 = .ok (.getfield 133, 3) := by decide +kernel
theorem f_5_133 : e_fld 5 133 3 4 12 2 true := ⟨RX3, TX3, 4, rfl, rfl, by decide, rfl, rfl, rfl, iX3, tblG_in (inT1 (List.mem_of_getElem? (i := 177) rfl)) rfl, tyX3_ok, nmX3⟩
theorem d_X5_input_7 : decode mX5_input.2.2.1 7 = .ok (.iconst 1, 1) := by decide +kernel
theorem d_X5_input_8 : decode mX5_input.2.2.1 8 = .ok (.iaload, 1) := by decide +kernel
theorem d_X5_input_9 : decode mX5_input.2.2.1 9 = .ok (.istore_n 1, 1) := by decide +kernel
theorem d_X5_input_10 : decode mX5_input.2.2.1 10 = .ok (.aload_n 0, 1) := by decide +kernel
theorem d_X5_input_11 : decode mX5_input.2.2.1 11 = .ok (.iconst 1, 1) := by decide +kernel
theorem d_X5_input_12 : decode mX5_input.2.2.1 12 = .ok (.invokevirtual 112, 3) := by decide +kernel
theorem d_X5_input_15 : decode mX5_input.2.2.1 15 = .ok (.ifCond .eq 8, 3) := by decide +kernel
theorem d_X5_input_23 : decode mX5_input.2.2.1 23 = .ok (.iconst 0, 1) := by decide +kernel
theorem d_X5_input_24 : decode mX5_input.2.2.1 24 = .ok (.ireturn, 1) := by decide +kernel
theorem d_X5_input_18 : decode mX5_input.2.2.1 18 = .ok (.iload_n 1, 1) := by decide +kernel
theorem d_X5_input_19 : decode mX5_input.2.2.1 19 = .ok (.iconst 3, 1) := by decide +kernel
theorem d_X5_input_20 : decode mX5_input.2.2.1 20 = .ok (.if_icmp .lt 5, 3) := by decide +kernel
theorem d_X5_input_25 : decode mX5_input.2.2.1 25 = .ok (.aload_n 0, 1) := by decide +kernel
theorem d_X5_input_26 : decode mX5_input.2.2.1 26 = .ok (.iconst 0, 1) := by decide +kernel
theorem d_X5_input_27 : decode mX5_input.2.2.1 27 = .ok (.bipush 99, 2) := by decide +kernel
theorem d_X5_input_29 : decode mX5_input.2.2.1 29 = .ok (.invokevirtual 87, 3) := by decide +kernel
theorem d_X5_input_32 : decode mX5_input.2.2.1 32 = .ok (.istore_n 2, 1) := by decide +kernel
theorem d_X5_input_33 : decode mX5_input.2.2.1 33 = .ok (.iload_n 2, 1) := by decide +kernel
theorem d_X5_input_34 : decode mX5_input.2.2.1 34 = .ok (.ifCond .ge 7, 3) := by decide +kernel
theorem d_X5_input_41 : decode mX5_input.2.2.1 41 = .ok (.aload_n 0, 1) := by decide +kernel
theorem d_X5_input_42 : decode mX5_input.2.2.1 42 = .ok (.iload_n 2, 1) := by decide +kernel
theorem d_X5_input_43 : decode mX5_input.2.2.1 43 = .ok (.bipush 99, 2) := by decide +kernel
theorem d_X5_input_45 : decode mX5_input.2.2.1 45 = .ok (.invokevirtual 87, 3) := by decide +kernel
theorem d_X5_input_37 : decode mX5_input.2.2.1 37 = .ok (.iconst (-1), 1) := by decide +kernel
theorem d_X5_input_38 : decode mX5_input.2.2.1 38 = .ok (.goto 10, 3) := by decide +kernel
theorem d_X5_input_48 : decode mX5_input.2.2.1 48 = .ok (.istore_n 3, 1) := by decide +kernel
theorem d_X5_input_49 : decode mX5_input.2.2.1 49 = .ok (.iload_n 3, 1) := by decide +kernel
theorem d_X5_input_50 : decode mX5_input.2.2.1 50 = .ok (.ifCond .lt 12, 3) := by decide +kernel
theorem d_X5_input_62 : decode mX5_input.2.2.1 62 = .ok (.iconst 0, 1) := by decide +kernel
theorem d_X5_input_63 : decode mX5_input.2.2.1 63 = .ok (.ireturn, 1) := by decide +kernel
theorem d_X5_input_53 : decode mX5_input.2.2.1 53 = .ok (.aload_n 0, 1) := by decide +kernel
theorem d_X5_input_54 : decode mX5_input.2.2.1 54 = .ok (.bipush 59, 2) := by decide +kernel
theorem d_X5_input_56 : decode mX5_input.2.2.1 56 = .ok (.invokevirtual 81, 3) := by decide +kernel
theorem d_X5_input_59 : decode mX5_input.2.2.1 59 = .ok (.ifCond .ne 5, 3) := by decide +kernel
theorem d_X5_input_64 : decode mX5_input.2.2.1 64 = .ok (.aload_n 0, 1) := by decide +kernel
theorem d_X5_input_65 : decode mX5_input.2.2.1 65 = .ok (.getfield 22, 3) := by decide +kernel
theorem d_X5_input_68 : decode mX5_input.2.2.1 68 = .ok (.getfield 148, 3) := by decide +kernel
theorem f_5_148 : e_fld 5 148 3 8 12 2 true := ⟨RX3, TX3, 8, rfl, rfl, by decide, rfl, rfl, rfl, iX3, tblG_in (inT1 (List.mem_of_getElem? (i := 197) rfl)) rfl, tyX3_ok, nmX3⟩
theorem d_X5_input_71 : decode mX5_input.2.2.1 71 = .ok (.iload_n 1, 1) := by decide +kernel
theorem d_X5_input_72 : decode mX5_input.2.2.1 72 = .ok (.iload_n 2, 1) := by decide +kernel
theorem d_X5_input_73 : decode mX5_input.2.2.1 73 = .ok (.iastore, 1) := by decide +kernel
theorem d_X5_input_74 : decode mX5_input.2.2.1 74 = .ok (.aload_n 0, 1) := by decide +kernel
theorem d_X5_input_75 : decode mX5_input.2.2.1 75 = .ok (.getfield 22, 3) := by decide +kernel
theorem d_X5_input_78 : decode mX5_input.2.2.1 78 = .ok (.getfield 151, 3) := by decide +kernel
theorem f_5_151 : e_fld 5 151 3 9 12 2 true := ⟨RX3, TX3, 9, rfl, rfl, by decide, rfl, rfl, rfl, iX3, tblG_in (inT1 (List.mem_of_getElem? (i := 201) rfl)) rfl, tyX3_ok, nmX3⟩
theorem d_X5_input_81 : decode mX5_input.2.2.1 81 = .ok (.iload_n 1, 1) := by decide +kernel
theorem d_X5_input_82 : decode mX5_input.2.2.1 82 = .ok (.iload_n 3, 1) := by decide +kernel
theorem d_X5_input_83 : decode mX5_input.2.2.1 83 = .ok (.iastore, 1) := by decide +kernel
theorem d_X5_input_84 : decode mX5_input.2.2.1 84 = .ok (.iconst 1, 1) := by decide +kernel
theorem d_X5_input_85 : decode mX5_input.2.2.1 85 = .ok (.ireturn, 1) := by decide +kernel
theorem ok_X5_input : e_m mX5_input 0 := ⟨tblG_in (inT4 (List.mem_of_getElem? (i := 93) rfl)) rfl, plainFor_of_name (by decide), rfl, ini_5, by decide +kernel, by decide⟩
theorem d_X5_declaration_51 : decode mX5_declaration.2.2.1 51 = .ok (.ireturn, 1) := by decide +kernel
theorem d_X5_declaration_42 : decode mX5_declaration.2.2.1 42 = .ok (.aload_n 0, 1) := by decide +kernel
theorem d_X5_declaration_43 : decode mX5_declaration.2.2.1 43 = .ok (.invokevirtual 106, 3) := by decide +kernel
def mX5_part : MD := (5, yX5_part, cX5_part, 8, some .boolean)
theorem sel_X5_part : Cond.instanceMethod mX5_part.2.1 ∈ tblG ∧ Cond.selects mX5_part.2.1.cls mX5_part.2.1 mX5_part.2.1 ∈ tblG := ⟨tblG_in (inT4 (List.mem_of_getElem? (i := 56) rfl)) rfl, tblG_in (inP2 (q := (mX5_part.2.1, 7)) (List.mem_of_getElem? (i := 1) rfl)) rfl⟩
theorem s_5_106 : e_siteV 5 106 mX5_part 5 := ⟨tblG_in (inT4 (List.mem_of_getElem? (i := 54) rfl)) rfl, sel_X5_part.1, sel_X5_part.2, rfl⟩
theorem d_X5_part_0 : decode mX5_part.2.2.1 0 = .ok (.aload_n 0, 1) := by decide +kernel
theorem d_X5_part_1 : decode mX5_part.2.2.1 1 = .ok (.getfield 22, 3) := by decide +kernel
theorem d_X5_part_4 : decode mX5_part.2.2.1 4 = .ok (.getfield 133, 3) := by decide +kernel
theorem d_X5_part_7 : decode mX5_part.2.2.1 7 = .ok (.iconst 0, 1) := by decide +kernel
theorem d_X5_part_8 : decode mX5_part.2.2.1 8 = .ok (.iaload, 1) := by decide +kernel
theorem d_X5_part_9 : decode mX5_part.2.2.1 9 = .ok (.istore_n 1, 1) := by decide +kernel
theorem d_X5_part_10 : decode mX5_part.2.2.1 10 = .ok (.aload_n 0, 1) := by decide +kernel
theorem d_X5_part_11 : decode mX5_part.2.2.1 11 = .ok (.iconst 0, 1) := by decide +kernel
theorem d_X5_part_12 : decode mX5_part.2.2.1 12 = .ok (.invokevirtual 112, 3) := by decide +kernel
theorem d_X5_part_15 : decode mX5_part.2.2.1 15 = .ok (.ifCond .eq 9, 3) := by decide +kernel
theorem d_X5_part_24 : decode mX5_part.2.2.1 24 = .ok (.iconst 0, 1) := by decide +kernel
theorem d_X5_part_25 : decode mX5_part.2.2.1 25 = .ok (.ireturn, 1) := by decide +kernel
theorem d_X5_part_18 : decode mX5_part.2.2.1 18 = .ok (.iload_n 1, 1) := by decide +kernel
theorem d_X5_part_19 : decode mX5_part.2.2.1 19 = .ok (.bipush 6, 2) := by decide +kernel
theorem d_X5_part_21 : decode mX5_part.2.2.1 21 = .ok (.if_icmp .lt 5, 3) := by decide +kernel
theorem d_X5_part_26 : decode mX5_part.2.2.1 26 = .ok (.aload_n 0, 1) := by decide +kernel
theorem d_X5_part_27 : decode mX5_part.2.2.1 27 = .ok (.bipush 14, 2) := by decide +kernel
theorem d_X5_part_29 : decode mX5_part.2.2.1 29 = .ok (.sipush 999, 3) := by decide +kernel
theorem d_X5_part_32 : decode mX5_part.2.2.1 32 = .ok (.invokevirtual 136, 3) := by decide +kernel
theorem sel_X5_takeTold : Cond.instanceMethod mX5_takeTold.2.1 ∈ tblG ∧ Cond.selects mX5_takeTold.2.1.cls mX5_takeTold.2.1 mX5_takeTold.2.1 ∈ tblG := ⟨tblG_in (inT4 (List.mem_of_getElem? (i := 80) rfl)) rfl, tblG_in (inP2 (q := (mX5_takeTold.2.1, 7)) (List.mem_of_getElem? (i := 3) rfl)) rfl⟩
theorem s_5_136 : e_siteV 5 136 mX5_takeTold 5 := ⟨tblG_in (inT4 (List.mem_of_getElem? (i := 78) rfl)) rfl, sel_X5_takeTold.1, sel_X5_takeTold.2, rfl⟩
theorem ok_X5_takeTold : e_m mX5_takeTold 2 := ⟨tblG_in (inT4 (List.mem_of_getElem? (i := 81) rfl)) rfl, plainFor_of_name (by decide), rfl, ini_5, by decide +kernel, by decide⟩
theorem d_X5_part_35 : decode mX5_part.2.2.1 35 = .ok (.istore_n 2, 1) := by decide +kernel
theorem d_X5_part_36 : decode mX5_part.2.2.1 36 = .ok (.iload_n 2, 1) := by decide +kernel
theorem d_X5_part_37 : decode mX5_part.2.2.1 37 = .ok (.ifCond .ge 7, 3) := by decide +kernel
theorem d_X5_part_44 : decode mX5_part.2.2.1 44 = .ok (.aload_n 0, 1) := by decide +kernel
theorem d_X5_part_45 : decode mX5_part.2.2.1 45 = .ok (.bipush 15, 2) := by decide +kernel
theorem d_X5_part_47 : decode mX5_part.2.2.1 47 = .ok (.bipush 20, 2) := by decide +kernel
theorem d_X5_part_49 : decode mX5_part.2.2.1 49 = .ok (.invokevirtual 136, 3) := by decide +kernel
theorem d_X5_part_40 : decode mX5_part.2.2.1 40 = .ok (.iconst (-1), 1) := by decide +kernel
theorem d_X5_part_41 : decode mX5_part.2.2.1 41 = .ok (.goto 11, 3) := by decide +kernel
theorem d_X5_part_52 : decode mX5_part.2.2.1 52 = .ok (.istore_n 3, 1) := by decide +kernel
theorem d_X5_part_53 : decode mX5_part.2.2.1 53 = .ok (.iload_n 3, 1) := by decide +kernel
theorem d_X5_part_54 : decode mX5_part.2.2.1 54 = .ok (.ifCond .ge 7, 3) := by decide +kernel
theorem d_X5_part_61 : decode mX5_part.2.2.1 61 = .ok (.aload_n 0, 1) := by decide +kernel
theorem d_X5_part_62 : decode mX5_part.2.2.1 62 = .ok (.iconst 0, 1) := by decide +kernel
theorem d_X5_part_63 : decode mX5_part.2.2.1 63 = .ok (.sipush 999, 3) := by decide +kernel
theorem d_X5_part_66 : decode mX5_part.2.2.1 66 = .ok (.invokevirtual 87, 3) := by decide +kernel
theorem d_X5_part_57 : decode mX5_part.2.2.1 57 = .ok (.iconst (-1), 1) := by decide +kernel
theorem d_X5_part_58 : decode mX5_part.2.2.1 58 = .ok (.goto 11, 3) := by decide +kernel
theorem d_X5_part_69 : decode mX5_part.2.2.1 69 = .ok (.istore 4, 2) := by decide +kernel
theorem d_X5_part_71 : decode mX5_part.2.2.1 71 = .ok (.iload 4, 2) := by decide +kernel
theorem d_X5_part_73 : decode mX5_part.2.2.1 73 = .ok (.ifCond .ge 7, 3) := by decide +kernel
theorem d_X5_part_80 : decode mX5_part.2.2.1 80 = .ok (.aload_n 0, 1) := by decide +kernel
theorem d_X5_part_81 : decode mX5_part.2.2.1 81 = .ok (.bipush 16, 2) := by decide +kernel
theorem d_X5_part_83 : decode mX5_part.2.2.1 83 = .ok (.sipush 999, 3) := by decide +kernel
theorem d_X5_part_86 : decode mX5_part.2.2.1 86 = .ok (.invokevirtual 136, 3) := by decide +kernel
theorem d_X5_part_76 : decode mX5_part.2.2.1 76 = .ok (.iconst (-1), 1) := by decide +kernel
theorem d_X5_part_77 : decode mX5_part.2.2.1 77 = .ok (.goto 12, 3) := by decide +kernel
theorem d_X5_part_89 : decode mX5_part.2.2.1 89 = .ok (.istore 5, 2) := by decide +kernel
theorem d_X5_part_91 : decode mX5_part.2.2.1 91 = .ok (.iload 5, 2) := by decide +kernel
theorem d_X5_part_93 : decode mX5_part.2.2.1 93 = .ok (.ifCond .ge 7, 3) := by decide +kernel
theorem d_X5_part_100 : decode mX5_part.2.2.1 100 = .ok (.aload_n 0, 1) := by decide +kernel
theorem d_X5_part_101 : decode mX5_part.2.2.1 101 = .ok (.bipush 17, 2) := by decide +kernel
theorem d_X5_part_103 : decode mX5_part.2.2.1 103 = .ok (.sipush 999, 3) := by decide +kernel
theorem d_X5_part_106 : decode mX5_part.2.2.1 106 = .ok (.invokevirtual 136, 3) := by decide +kernel
theorem d_X5_part_96 : decode mX5_part.2.2.1 96 = .ok (.iconst (-1), 1) := by decide +kernel
theorem d_X5_part_97 : decode mX5_part.2.2.1 97 = .ok (.goto 12, 3) := by decide +kernel
theorem d_X5_part_109 : decode mX5_part.2.2.1 109 = .ok (.istore 6, 2) := by decide +kernel
theorem d_X5_part_111 : decode mX5_part.2.2.1 111 = .ok (.iload 6, 2) := by decide +kernel
theorem d_X5_part_113 : decode mX5_part.2.2.1 113 = .ok (.ifCond .ge 7, 3) := by decide +kernel
theorem d_X5_part_120 : decode mX5_part.2.2.1 120 = .ok (.aload_n 0, 1) := by decide +kernel
theorem d_X5_part_121 : decode mX5_part.2.2.1 121 = .ok (.bipush 18, 2) := by decide +kernel
theorem d_X5_part_123 : decode mX5_part.2.2.1 123 = .ok (.bipush 50, 2) := by decide +kernel
theorem d_X5_part_125 : decode mX5_part.2.2.1 125 = .ok (.invokevirtual 136, 3) := by decide +kernel
theorem d_X5_part_116 : decode mX5_part.2.2.1 116 = .ok (.iconst (-1), 1) := by decide +kernel
theorem d_X5_part_117 : decode mX5_part.2.2.1 117 = .ok (.goto 11, 3) := by decide +kernel
theorem d_X5_part_128 : decode mX5_part.2.2.1 128 = .ok (.istore 7, 2) := by decide +kernel
theorem d_X5_part_130 : decode mX5_part.2.2.1 130 = .ok (.iload 7, 2) := by decide +kernel
theorem d_X5_part_132 : decode mX5_part.2.2.1 132 = .ok (.ifCond .lt 12, 3) := by decide +kernel
theorem d_X5_part_144 : decode mX5_part.2.2.1 144 = .ok (.iconst 0, 1) := by decide +kernel
theorem d_X5_part_145 : decode mX5_part.2.2.1 145 = .ok (.ireturn, 1) := by decide +kernel
theorem d_X5_part_135 : decode mX5_part.2.2.1 135 = .ok (.aload_n 0, 1) := by decide +kernel
theorem d_X5_part_136 : decode mX5_part.2.2.1 136 = .ok (.bipush 59, 2) := by decide +kernel
theorem d_X5_part_138 : decode mX5_part.2.2.1 138 = .ok (.invokevirtual 81, 3) := by decide +kernel
theorem d_X5_part_141 : decode mX5_part.2.2.1 141 = .ok (.ifCond .ne 5, 3) := by decide +kernel
theorem d_X5_part_146 : decode mX5_part.2.2.1 146 = .ok (.aload_n 0, 1) := by decide +kernel
theorem d_X5_part_147 : decode mX5_part.2.2.1 147 = .ok (.getfield 22, 3) := by decide +kernel
theorem d_X5_part_150 : decode mX5_part.2.2.1 150 = .ok (.getfield 139, 3) := by decide +kernel
theorem f_5_139 : e_fld 5 139 3 5 12 2 true := ⟨RX3, TX3, 5, rfl, rfl, by decide, rfl, rfl, rfl, iX3, tblG_in (inT1 (List.mem_of_getElem? (i := 183) rfl)) rfl, tyX3_ok, nmX3⟩
theorem d_X5_part_153 : decode mX5_part.2.2.1 153 = .ok (.iload_n 1, 1) := by decide +kernel
theorem d_X5_part_154 : decode mX5_part.2.2.1 154 = .ok (.iconst 4, 1) := by decide +kernel
theorem d_X5_part_155 : decode mX5_part.2.2.1 155 = .ok (.imul, 1) := by decide +kernel
theorem d_X5_part_156 : decode mX5_part.2.2.1 156 = .ok (.iconst 0, 1) := by decide +kernel
theorem d_X5_part_157 : decode mX5_part.2.2.1 157 = .ok (.iadd, 1) := by decide +kernel
theorem d_X5_part_158 : decode mX5_part.2.2.1 158 = .ok (.iload_n 2, 1) := by decide +kernel
theorem d_X5_part_159 : decode mX5_part.2.2.1 159 = .ok (.iastore, 1) := by decide +kernel
theorem d_X5_part_160 : decode mX5_part.2.2.1 160 = .ok (.aload_n 0, 1) := by decide +kernel
theorem d_X5_part_161 : decode mX5_part.2.2.1 161 = .ok (.getfield 22, 3) := by decide +kernel
theorem d_X5_part_164 : decode mX5_part.2.2.1 164 = .ok (.getfield 139, 3) := by decide +kernel
theorem d_X5_part_167 : decode mX5_part.2.2.1 167 = .ok (.iload_n 1, 1) := by decide +kernel
theorem d_X5_part_168 : decode mX5_part.2.2.1 168 = .ok (.iconst 4, 1) := by decide +kernel
theorem d_X5_part_169 : decode mX5_part.2.2.1 169 = .ok (.imul, 1) := by decide +kernel
theorem d_X5_part_170 : decode mX5_part.2.2.1 170 = .ok (.iconst 1, 1) := by decide +kernel
theorem d_X5_part_171 : decode mX5_part.2.2.1 171 = .ok (.iadd, 1) := by decide +kernel
theorem d_X5_part_172 : decode mX5_part.2.2.1 172 = .ok (.iload 4, 2) := by decide +kernel
theorem d_X5_part_174 : decode mX5_part.2.2.1 174 = .ok (.iastore, 1) := by decide +kernel
theorem d_X5_part_175 : decode mX5_part.2.2.1 175 = .ok (.aload_n 0, 1) := by decide +kernel
theorem d_X5_part_176 : decode mX5_part.2.2.1 176 = .ok (.getfield 22, 3) := by decide +kernel
theorem d_X5_part_179 : decode mX5_part.2.2.1 179 = .ok (.getfield 139, 3) := by decide +kernel
theorem d_X5_part_182 : decode mX5_part.2.2.1 182 = .ok (.iload_n 1, 1) := by decide +kernel
theorem d_X5_part_183 : decode mX5_part.2.2.1 183 = .ok (.iconst 4, 1) := by decide +kernel
theorem d_X5_part_184 : decode mX5_part.2.2.1 184 = .ok (.imul, 1) := by decide +kernel
theorem d_X5_part_185 : decode mX5_part.2.2.1 185 = .ok (.iconst 2, 1) := by decide +kernel
theorem d_X5_part_186 : decode mX5_part.2.2.1 186 = .ok (.iadd, 1) := by decide +kernel
theorem d_X5_part_187 : decode mX5_part.2.2.1 187 = .ok (.iload 5, 2) := by decide +kernel
theorem d_X5_part_189 : decode mX5_part.2.2.1 189 = .ok (.iastore, 1) := by decide +kernel
theorem d_X5_part_190 : decode mX5_part.2.2.1 190 = .ok (.aload_n 0, 1) := by decide +kernel
theorem d_X5_part_191 : decode mX5_part.2.2.1 191 = .ok (.getfield 22, 3) := by decide +kernel
theorem d_X5_part_194 : decode mX5_part.2.2.1 194 = .ok (.getfield 139, 3) := by decide +kernel
theorem d_X5_part_197 : decode mX5_part.2.2.1 197 = .ok (.iload_n 1, 1) := by decide +kernel
theorem d_X5_part_198 : decode mX5_part.2.2.1 198 = .ok (.iconst 4, 1) := by decide +kernel
theorem d_X5_part_199 : decode mX5_part.2.2.1 199 = .ok (.imul, 1) := by decide +kernel
theorem d_X5_part_200 : decode mX5_part.2.2.1 200 = .ok (.iconst 3, 1) := by decide +kernel
theorem d_X5_part_201 : decode mX5_part.2.2.1 201 = .ok (.iadd, 1) := by decide +kernel
theorem d_X5_part_202 : decode mX5_part.2.2.1 202 = .ok (.iload 6, 2) := by decide +kernel
theorem d_X5_part_204 : decode mX5_part.2.2.1 204 = .ok (.iastore, 1) := by decide +kernel
theorem d_X5_part_205 : decode mX5_part.2.2.1 205 = .ok (.aload_n 0, 1) := by decide +kernel
theorem d_X5_part_206 : decode mX5_part.2.2.1 206 = .ok (.getfield 22, 3) := by decide +kernel
theorem d_X5_part_209 : decode mX5_part.2.2.1 209 = .ok (.getfield 142, 3) := by decide +kernel
theorem f_5_142 : e_fld 5 142 3 6 12 2 true := ⟨RX3, TX3, 6, rfl, rfl, by decide, rfl, rfl, rfl, iX3, tblG_in (inT1 (List.mem_of_getElem? (i := 187) rfl)) rfl, tyX3_ok, nmX3⟩
theorem d_X5_part_212 : decode mX5_part.2.2.1 212 = .ok (.iload_n 1, 1) := by decide +kernel
theorem d_X5_part_213 : decode mX5_part.2.2.1 213 = .ok (.iload_n 3, 1) := by decide +kernel
theorem d_X5_part_214 : decode mX5_part.2.2.1 214 = .ok (.iastore, 1) := by decide +kernel
theorem d_X5_part_215 : decode mX5_part.2.2.1 215 = .ok (.aload_n 0, 1) := by decide +kernel
theorem d_X5_part_216 : decode mX5_part.2.2.1 216 = .ok (.getfield 22, 3) := by decide +kernel
theorem d_X5_part_219 : decode mX5_part.2.2.1 219 = .ok (.getfield 145, 3) := by decide +kernel
theorem f_5_145 : e_fld 5 145 3 7 12 2 true := ⟨RX3, TX3, 7, rfl, rfl, by decide, rfl, rfl, rfl, iX3, tblG_in (inT1 (List.mem_of_getElem? (i := 192) rfl)) rfl, tyX3_ok, nmX3⟩
theorem d_X5_part_222 : decode mX5_part.2.2.1 222 = .ok (.iload_n 1, 1) := by decide +kernel
theorem d_X5_part_223 : decode mX5_part.2.2.1 223 = .ok (.iload 7, 2) := by decide +kernel
theorem d_X5_part_225 : decode mX5_part.2.2.1 225 = .ok (.iastore, 1) := by decide +kernel
theorem d_X5_part_226 : decode mX5_part.2.2.1 226 = .ok (.iconst 1, 1) := by decide +kernel
theorem d_X5_part_227 : decode mX5_part.2.2.1 227 = .ok (.ireturn, 1) := by decide +kernel
theorem ok_X5_part : e_m mX5_part 0 := ⟨tblG_in (inT4 (List.mem_of_getElem? (i := 57) rfl)) rfl, plainFor_of_name (by decide), rfl, ini_5, by decide +kernel, by decide⟩
theorem d_X5_declaration_46 : decode mX5_declaration.2.2.1 46 = .ok (.ireturn, 1) := by decide +kernel
theorem d_X5_declaration_37 : decode mX5_declaration.2.2.1 37 = .ok (.aload_n 0, 1) := by decide +kernel
theorem d_X5_declaration_38 : decode mX5_declaration.2.2.1 38 = .ok (.invokevirtual 103, 3) := by decide +kernel
theorem sel_X5_cache : Cond.instanceMethod mX5_cache.2.1 ∈ tblG ∧ Cond.selects mX5_cache.2.1.cls mX5_cache.2.1 mX5_cache.2.1 ∈ tblG := ⟨tblG_in (inT4 (List.mem_of_getElem? (i := 52) rfl)) rfl, tblG_in (inP2 (q := (mX5_cache.2.1, 7)) (List.mem_of_getElem? (i := 0) rfl)) rfl⟩
theorem s_5_103 : e_siteV 5 103 mX5_cache 5 := ⟨tblG_in (inT4 (List.mem_of_getElem? (i := 50) rfl)) rfl, sel_X5_cache.1, sel_X5_cache.2, rfl⟩
theorem ok_X5_cache : e_m mX5_cache 0 := ⟨tblG_in (inT4 (List.mem_of_getElem? (i := 53) rfl)) rfl, plainFor_of_name (by decide), rfl, ini_5, by decide +kernel, by decide⟩
