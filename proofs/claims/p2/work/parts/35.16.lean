theorem ok_X12_inputOf : e_m mX12_inputOf 1 := ⟨tblG_in (inT8 (List.mem_of_getElem? (i := 171) rfl)) rfl, plainFor_of_name (by decide), rfl, ini_12, by decide +kernel, by decide⟩
theorem d_X12_fresh_64 : decode mX12_fresh.2.2.1 64 = .ok (.iconst (-1), 1) := by decide +kernel
theorem d_X12_fresh_65 : decode mX12_fresh.2.2.1 65 = .ok (.if_icmp .ne 15, 3) := by decide +kernel
theorem d_X12_fresh_68 : decode mX12_fresh.2.2.1 68 = .ok (.aload_n 0, 1) := by decide +kernel
theorem d_X12_fresh_69 : decode mX12_fresh.2.2.1 69 = .ok (.aload_n 0, 1) := by decide +kernel
theorem d_X12_fresh_70 : decode mX12_fresh.2.2.1 70 = .ok (.getfield 32, 3) := by decide +kernel
theorem d_X12_fresh_73 : decode mX12_fresh.2.2.1 73 = .ok (.invokevirtual 464, 3) := by decide +kernel
def mX12_varOf : MD := (12, yX12_varOf, cX12_varOf, 4, some .int)
theorem sel_X12_varOf : Cond.instanceMethod mX12_varOf.2.1 ∈ tblG ∧ Cond.selects mX12_varOf.2.1.cls mX12_varOf.2.1 mX12_varOf.2.1 ∈ tblG := ⟨tblG_in (inT8 (List.mem_of_getElem? (i := 174) rfl)) rfl, tblG_in (inP6 (q := (mX12_varOf.2.1, 121)) (List.mem_of_getElem? (i := 4) rfl)) rfl⟩
theorem s_12_464 : e_siteV 12 464 mX12_varOf 12 := ⟨tblG_in (inT8 (List.mem_of_getElem? (i := 172) rfl)) rfl, sel_X12_varOf.1, sel_X12_varOf.2, rfl⟩
theorem d_X12_varOf_0 : decode mX12_varOf.2.2.1 0 = .ok (.iconst 0, 1) := by decide +kernel
theorem d_X12_varOf_1 : decode mX12_varOf.2.2.1 1 = .ok (.istore_n 3, 1) := by decide +kernel
theorem d_X12_varOf_2 : decode mX12_varOf.2.2.1 2 = .ok (.iload_n 3, 1) := by decide +kernel
theorem d_X12_varOf_3 : decode mX12_varOf.2.2.1 3 = .ok (.aload_n 0, 1) := by decide +kernel
theorem d_X12_varOf_4 : decode mX12_varOf.2.2.1 4 = .ok (.getfield 69, 3) := by decide +kernel
theorem d_X12_varOf_7 : decode mX12_varOf.2.2.1 7 = .ok (.aload_n 0, 1) := by decide +kernel
theorem d_X12_varOf_8 : decode mX12_varOf.2.2.1 8 = .ok (.getfield 124, 3) := by decide +kernel
theorem d_X12_varOf_11 : decode mX12_varOf.2.2.1 11 = .ok (.iaload, 1) := by decide +kernel
theorem d_X12_varOf_12 : decode mX12_varOf.2.2.1 12 = .ok (.if_icmp .ge 30, 3) := by decide +kernel
theorem d_X12_varOf_42 : decode mX12_varOf.2.2.1 42 = .ok (.iconst (-1), 1) := by decide +kernel
theorem d_X12_varOf_43 : decode mX12_varOf.2.2.1 43 = .ok (.ireturn, 1) := by decide +kernel
theorem d_X12_varOf_15 : decode mX12_varOf.2.2.1 15 = .ok (.aload_n 0, 1) := by decide +kernel
theorem d_X12_varOf_16 : decode mX12_varOf.2.2.1 16 = .ok (.getfield 91, 3) := by decide +kernel
theorem d_X12_varOf_19 : decode mX12_varOf.2.2.1 19 = .ok (.bipush 6, 2) := by decide +kernel
theorem d_X12_varOf_21 : decode mX12_varOf.2.2.1 21 = .ok (.aload_n 0, 1) := by decide +kernel
theorem d_X12_varOf_22 : decode mX12_varOf.2.2.1 22 = .ok (.getfield 124, 3) := by decide +kernel
theorem d_X12_varOf_25 : decode mX12_varOf.2.2.1 25 = .ok (.imul, 1) := by decide +kernel
theorem d_X12_varOf_26 : decode mX12_varOf.2.2.1 26 = .ok (.iload_n 3, 1) := by decide +kernel
theorem d_X12_varOf_27 : decode mX12_varOf.2.2.1 27 = .ok (.iadd, 1) := by decide +kernel
theorem d_X12_varOf_28 : decode mX12_varOf.2.2.1 28 = .ok (.laload, 1) := by decide +kernel
theorem d_X12_varOf_29 : decode mX12_varOf.2.2.1 29 = .ok (.lload_n 1, 1) := by decide +kernel
theorem d_X12_varOf_30 : decode mX12_varOf.2.2.1 30 = .ok (.lcmp, 1) := by decide +kernel
theorem d_X12_varOf_31 : decode mX12_varOf.2.2.1 31 = .ok (.ifCond .ne 5, 3) := by decide +kernel
theorem d_X12_varOf_36 : decode mX12_varOf.2.2.1 36 = .ok (.iinc 3 1, 3) := by decide +kernel
theorem d_X12_varOf_39 : decode mX12_varOf.2.2.1 39 = .ok (.goto (-37), 3) := by decide +kernel
theorem d_X12_varOf_34 : decode mX12_varOf.2.2.1 34 = .ok (.iload_n 3, 1) := by decide +kernel
theorem d_X12_varOf_35 : decode mX12_varOf.2.2.1 35 = .ok (.ireturn, 1) := by decide +kernel
theorem ok_X12_varOf : e_m mX12_varOf 1 := ⟨tblG_in (inT8 (List.mem_of_getElem? (i := 175) rfl)) rfl, plainFor_of_name (by decide), rfl, ini_12, by decide +kernel, by decide⟩
theorem d_X12_fresh_76 : decode mX12_fresh.2.2.1 76 = .ok (.iconst (-1), 1) := by decide +kernel
theorem d_X12_fresh_77 : decode mX12_fresh.2.2.1 77 = .ok (.if_icmp .eq 12, 3) := by decide +kernel
theorem d_X12_fresh_80 : decode mX12_fresh.2.2.1 80 = .ok (.aload_n 0, 1) := by decide +kernel
theorem d_X12_fresh_81 : decode mX12_fresh.2.2.1 81 = .ok (.iconst 2, 1) := by decide +kernel
theorem d_X12_fresh_82 : decode mX12_fresh.2.2.1 82 = .ok (.aload_n 0, 1) := by decide +kernel
theorem d_X12_fresh_83 : decode mX12_fresh.2.2.1 83 = .ok (.getfield 23, 3) := by decide +kernel
theorem d_X12_fresh_86 : decode mX12_fresh.2.2.1 86 = .ok (.invokevirtual 389, 3) := by decide +kernel
theorem d_X12_fresh_89 : decode mX12_fresh.2.2.1 89 = .ok (.aload_n 0, 1) := by decide +kernel
theorem d_X12_fresh_90 : decode mX12_fresh.2.2.1 90 = .ok (.getfield 32, 3) := by decide +kernel
theorem d_X12_fresh_93 : decode mX12_fresh.2.2.1 93 = .ok (.lstore_n 1, 1) := by decide +kernel
theorem d_X12_fresh_94 : decode mX12_fresh.2.2.1 94 = .ok (.aload_n 0, 1) := by decide +kernel
theorem d_X12_fresh_95 : decode mX12_fresh.2.2.1 95 = .ok (.getfield 36, 3) := by decide +kernel
theorem d_X12_fresh_98 : decode mX12_fresh.2.2.1 98 = .ok (.ifCond .ne 7, 3) := by decide +kernel
theorem d_X12_fresh_105 : decode mX12_fresh.2.2.1 105 = .ok (.lload_n 1, 1) := by decide +kernel
theorem d_X12_fresh_106 : decode mX12_fresh.2.2.1 106 = .ok (.lreturn, 1) := by decide +kernel
theorem d_X12_fresh_101 : decode mX12_fresh.2.2.1 101 = .ok (.aload_n 0, 1) := by decide +kernel
theorem d_X12_fresh_102 : decode mX12_fresh.2.2.1 102 = .ok (.invokevirtual 396, 3) := by decide +kernel
theorem ok_X12_fresh : e_m mX12_fresh 0 := ⟨tblG_in (inT8 (List.mem_of_getElem? (i := 135) rfl)) rfl, plainFor_of_name (by decide), rfl, ini_12, by decide +kernel, by decide⟩
theorem d_X12_variable_56 : decode mX12_variable.2.2.1 56 = .ok (.lastore, 1) := by decide +kernel
theorem d_X12_variable_57 : decode mX12_variable.2.2.1 57 = .ok (.aload_n 0, 1) := by decide +kernel
theorem d_X12_variable_58 : decode mX12_variable.2.2.1 58 = .ok (.getfield 36, 3) := by decide +kernel
theorem d_X12_variable_61 : decode mX12_variable.2.2.1 61 = .ok (.ifCond .ne 16, 3) := by decide +kernel
theorem d_X12_variable_77 : decode mX12_variable.2.2.1 77 = .ok (.return_, 1) := by decide +kernel
theorem d_X12_variable_64 : decode mX12_variable.2.2.1 64 = .ok (.aload_n 0, 1) := by decide +kernel
theorem d_X12_variable_65 : decode mX12_variable.2.2.1 65 = .ok (.getfield 69, 3) := by decide +kernel
theorem d_X12_variable_68 : decode mX12_variable.2.2.1 68 = .ok (.aload_n 0, 1) := by decide +kernel
theorem d_X12_variable_69 : decode mX12_variable.2.2.1 69 = .ok (.getfield 124, 3) := by decide +kernel
theorem d_X12_variable_72 : decode mX12_variable.2.2.1 72 = .ok (.dup2, 1) := by decide +kernel
theorem d_X12_variable_73 : decode mX12_variable.2.2.1 73 = .ok (.iaload, 1) := by decide +kernel
theorem d_X12_variable_74 : decode mX12_variable.2.2.1 74 = .ok (.iconst 1, 1) := by decide +kernel
theorem d_X12_variable_75 : decode mX12_variable.2.2.1 75 = .ok (.iadd, 1) := by decide +kernel
theorem d_X12_variable_76 : decode mX12_variable.2.2.1 76 = .ok (.iastore, 1) := by decide +kernel
theorem d_X12_variable_30 : decode mX12_variable.2.2.1 30 = .ok (.return_, 1) := by decide +kernel
theorem ok_X12_variable : e_m mX12_variable 0 := ⟨tblG_in (inT8 (List.mem_of_getElem? (i := 187) rfl)) rfl, plainFor_of_name (by decide), rfl, ini_12, by decide +kernel, by decide⟩
theorem d_X12_declares_147 : decode mX12_declares.2.2.1 147 = .ok (.goto 5, 3) := by decide +kernel
theorem d_X12_declares_126 : decode mX12_declares.2.2.1 126 = .ok (.aload_n 0, 1) := by decide +kernel
theorem d_X12_declares_127 : decode mX12_declares.2.2.1 127 = .ok (.invokevirtual 523, 3) := by decide +kernel
def mX12_input : MD := (12, yX12_input, cX12_input, 2, none)
theorem sel_X12_input : Cond.instanceMethod mX12_input.2.1 ∈ tblG ∧ Cond.selects mX12_input.2.1.cls mX12_input.2.1 mX12_input.2.1 ∈ tblG := ⟨tblG_in (inT8 (List.mem_of_getElem? (i := 182) rfl)) rfl, tblG_in (inP6 (q := (mX12_input.2.1, 121)) (List.mem_of_getElem? (i := 6) rfl)) rfl⟩
theorem s_12_523 : e_siteV 12 523 mX12_input 12 := ⟨tblG_in (inT8 (List.mem_of_getElem? (i := 180) rfl)) rfl, sel_X12_input.1, sel_X12_input.2, rfl⟩
theorem d_X12_input_0 : decode mX12_input.2.2.1 0 = .ok (.aload_n 0, 1) := by decide +kernel
theorem d_X12_input_1 : decode mX12_input.2.2.1 1 = .ok (.aload_n 0, 1) := by decide +kernel
theorem d_X12_input_2 : decode mX12_input.2.2.1 2 = .ok (.getfield 66, 3) := by decide +kernel
theorem d_X12_input_5 : decode mX12_input.2.2.1 5 = .ok (.aload_n 0, 1) := by decide +kernel
theorem d_X12_input_6 : decode mX12_input.2.2.1 6 = .ok (.getfield 124, 3) := by decide +kernel
theorem d_X12_input_9 : decode mX12_input.2.2.1 9 = .ok (.iaload, 1) := by decide +kernel
theorem d_X12_input_10 : decode mX12_input.2.2.1 10 = .ok (.iconst 3, 1) := by decide +kernel
theorem d_X12_input_11 : decode mX12_input.2.2.1 11 = .ok (.if_icmp .ne 7, 3) := by decide +kernel
theorem d_X12_input_18 : decode mX12_input.2.2.1 18 = .ok (.iconst 0, 1) := by decide +kernel
theorem d_X12_input_14 : decode mX12_input.2.2.1 14 = .ok (.iconst 1, 1) := by decide +kernel
theorem d_X12_input_15 : decode mX12_input.2.2.1 15 = .ok (.goto 4, 3) := by decide +kernel
theorem d_X12_input_19 : decode mX12_input.2.2.1 19 = .ok (.invokevirtual 505, 3) := by decide +kernel
theorem d_X12_input_22 : decode mX12_input.2.2.1 22 = .ok (.aload_n 0, 1) := by decide +kernel
theorem d_X12_input_23 : decode mX12_input.2.2.1 23 = .ok (.getfield 36, 3) := by decide +kernel
theorem d_X12_input_26 : decode mX12_input.2.2.1 26 = .ok (.ifCond .le 4, 3) := by decide +kernel
theorem d_X12_input_30 : decode mX12_input.2.2.1 30 = .ok (.iconst 3, 1) := by decide +kernel
theorem d_X12_input_31 : decode mX12_input.2.2.1 31 = .ok (.aload_n 0, 1) := by decide +kernel
theorem d_X12_input_32 : decode mX12_input.2.2.1 32 = .ok (.getfield 124, 3) := by decide +kernel
theorem d_X12_input_35 : decode mX12_input.2.2.1 35 = .ok (.imul, 1) := by decide +kernel
theorem d_X12_input_36 : decode mX12_input.2.2.1 36 = .ok (.aload_n 0, 1) := by decide +kernel
theorem d_X12_input_37 : decode mX12_input.2.2.1 37 = .ok (.getfield 66, 3) := by decide +kernel
theorem d_X12_input_40 : decode mX12_input.2.2.1 40 = .ok (.aload_n 0, 1) := by decide +kernel
theorem d_X12_input_41 : decode mX12_input.2.2.1 41 = .ok (.getfield 124, 3) := by decide +kernel
theorem d_X12_input_44 : decode mX12_input.2.2.1 44 = .ok (.iaload, 1) := by decide +kernel
theorem d_X12_input_45 : decode mX12_input.2.2.1 45 = .ok (.iadd, 1) := by decide +kernel
theorem d_X12_input_46 : decode mX12_input.2.2.1 46 = .ok (.istore_n 1, 1) := by decide +kernel
theorem d_X12_input_47 : decode mX12_input.2.2.1 47 = .ok (.aload_n 0, 1) := by decide +kernel
theorem d_X12_input_48 : decode mX12_input.2.2.1 48 = .ok (.getfield 82, 3) := by decide +kernel
theorem d_X12_input_51 : decode mX12_input.2.2.1 51 = .ok (.iload_n 1, 1) := by decide +kernel
theorem d_X12_input_52 : decode mX12_input.2.2.1 52 = .ok (.aload_n 0, 1) := by decide +kernel
theorem d_X12_input_53 : decode mX12_input.2.2.1 53 = .ok (.invokevirtual 508, 3) := by decide +kernel
theorem d_X12_input_56 : decode mX12_input.2.2.1 56 = .ok (.lastore, 1) := by decide +kernel
theorem d_X12_input_57 : decode mX12_input.2.2.1 57 = .ok (.aload_n 0, 1) := by decide +kernel
theorem d_X12_input_58 : decode mX12_input.2.2.1 58 = .ok (.getfield 85, 3) := by decide +kernel
theorem d_X12_input_61 : decode mX12_input.2.2.1 61 = .ok (.iload_n 1, 1) := by decide +kernel
theorem d_X12_input_62 : decode mX12_input.2.2.1 62 = .ok (.aload_n 0, 1) := by decide +kernel
theorem d_X12_input_63 : decode mX12_input.2.2.1 63 = .ok (.iconst 0, 1) := by decide +kernel
theorem d_X12_input_64 : decode mX12_input.2.2.1 64 = .ok (.bipush 99, 2) := by decide +kernel
theorem d_X12_input_66 : decode mX12_input.2.2.1 66 = .ok (.invokevirtual 516, 3) := by decide +kernel
def mX12_number : MD := (12, yX12_number, cX12_number, 4, some .int)
theorem sel_X12_number : Cond.instanceMethod mX12_number.2.1 ∈ tblG ∧ Cond.selects mX12_number.2.1.cls mX12_number.2.1 mX12_number.2.1 ∈ tblG := ⟨tblG_in (inT8 (List.mem_of_getElem? (i := 117) rfl)) rfl, tblG_in (inP5 (q := (mX12_number.2.1, 121)) (List.mem_of_getElem? (i := 13) rfl)) rfl⟩
theorem s_12_516 : e_siteV 12 516 mX12_number 12 := ⟨tblG_in (inT8 (List.mem_of_getElem? (i := 115) rfl)) rfl, sel_X12_number.1, sel_X12_number.2, rfl⟩
theorem d_X12_number_0 : decode mX12_number.2.2.1 0 = .ok (.aload_n 0, 1) := by decide +kernel
theorem d_X12_number_1 : decode mX12_number.2.2.1 1 = .ok (.getfield 36, 3) := by decide +kernel
theorem d_X12_number_4 : decode mX12_number.2.2.1 4 = .ok (.ifCond .le 5, 3) := by decide +kernel
theorem d_X12_number_9 : decode mX12_number.2.2.1 9 = .ok (.aload_n 0, 1) := by decide +kernel
theorem d_X12_number_10 : decode mX12_number.2.2.1 10 = .ok (.getfield 20, 3) := by decide +kernel
theorem d_X12_number_13 : decode mX12_number.2.2.1 13 = .ok (.iconst 2, 1) := by decide +kernel
theorem d_X12_number_14 : decode mX12_number.2.2.1 14 = .ok (.if_icmp .eq 12, 3) := by decide +kernel
theorem d_X12_number_17 : decode mX12_number.2.2.1 17 = .ok (.aload_n 0, 1) := by decide +kernel
theorem d_X12_number_18 : decode mX12_number.2.2.1 18 = .ok (.iconst 1, 1) := by decide +kernel
theorem d_X12_number_19 : decode mX12_number.2.2.1 19 = .ok (.aload_n 0, 1) := by decide +kernel
theorem d_X12_number_20 : decode mX12_number.2.2.1 20 = .ok (.getfield 23, 3) := by decide +kernel
theorem d_X12_number_23 : decode mX12_number.2.2.1 23 = .ok (.invokevirtual 389, 3) := by decide +kernel
theorem d_X12_number_7 : decode mX12_number.2.2.1 7 = .ok (.iconst 0, 1) := by decide +kernel
theorem d_X12_number_8 : decode mX12_number.2.2.1 8 = .ok (.ireturn, 1) := by decide +kernel
theorem d_X12_number_26 : decode mX12_number.2.2.1 26 = .ok (.aload_n 0, 1) := by decide +kernel
theorem d_X12_number_27 : decode mX12_number.2.2.1 27 = .ok (.getfield 36, 3) := by decide +kernel
theorem d_X12_number_30 : decode mX12_number.2.2.1 30 = .ok (.ifCond .ne 24, 3) := by decide +kernel
theorem d_X12_number_33 : decode mX12_number.2.2.1 33 = .ok (.aload_n 0, 1) := by decide +kernel
theorem d_X12_number_34 : decode mX12_number.2.2.1 34 = .ok (.getfield 29, 3) := by decide +kernel
theorem d_X12_number_37 : decode mX12_number.2.2.1 37 = .ok (.iload_n 1, 1) := by decide +kernel
theorem d_X12_number_38 : decode mX12_number.2.2.1 38 = .ok (.iload_n 2, 1) := by decide +kernel
theorem d_X12_number_39 : decode mX12_number.2.2.1 39 = .ok (.invokestatic 467, 3) := by decide +kernel
theorem d_X12_number_42 : decode mX12_number.2.2.1 42 = .ok (.ifCond .ne 12, 3) := by decide +kernel
theorem d_X12_number_45 : decode mX12_number.2.2.1 45 = .ok (.aload_n 0, 1) := by decide +kernel
theorem d_X12_number_46 : decode mX12_number.2.2.1 46 = .ok (.iconst 4, 1) := by decide +kernel
theorem d_X12_number_47 : decode mX12_number.2.2.1 47 = .ok (.aload_n 0, 1) := by decide +kernel
theorem d_X12_number_48 : decode mX12_number.2.2.1 48 = .ok (.getfield 23, 3) := by decide +kernel
theorem d_X12_number_51 : decode mX12_number.2.2.1 51 = .ok (.invokevirtual 389, 3) := by decide +kernel
theorem d_X12_number_54 : decode mX12_number.2.2.1 54 = .ok (.aload_n 0, 1) := by decide +kernel
theorem d_X12_number_55 : decode mX12_number.2.2.1 55 = .ok (.getfield 29, 3) := by decide +kernel
theorem d_X12_number_58 : decode mX12_number.2.2.1 58 = .ok (.istore_n 3, 1) := by decide +kernel
theorem d_X12_number_59 : decode mX12_number.2.2.1 59 = .ok (.aload_n 0, 1) := by decide +kernel
theorem d_X12_number_60 : decode mX12_number.2.2.1 60 = .ok (.getfield 36, 3) := by decide +kernel
theorem d_X12_number_63 : decode mX12_number.2.2.1 63 = .ok (.ifCond .ne 7, 3) := by decide +kernel
theorem d_X12_number_70 : decode mX12_number.2.2.1 70 = .ok (.iload_n 3, 1) := by decide +kernel
theorem d_X12_number_71 : decode mX12_number.2.2.1 71 = .ok (.ireturn, 1) := by decide +kernel
theorem d_X12_number_66 : decode mX12_number.2.2.1 66 = .ok (.aload_n 0, 1) := by decide +kernel
theorem d_X12_number_67 : decode mX12_number.2.2.1 67 = .ok (.invokevirtual 396, 3) := by decide +kernel
theorem ok_X12_number : e_m mX12_number 2 := ⟨tblG_in (inT8 (List.mem_of_getElem? (i := 118) rfl)) rfl, plainFor_of_name (by decide), rfl, ini_12, by decide +kernel, by decide⟩
theorem d_X12_input_69 : decode mX12_input.2.2.1 69 = .ok (.iastore, 1) := by decide +kernel
theorem d_X12_input_70 : decode mX12_input.2.2.1 70 = .ok (.aload_n 0, 1) := by decide +kernel
theorem d_X12_input_71 : decode mX12_input.2.2.1 71 = .ok (.getfield 88, 3) := by decide +kernel
theorem d_X12_input_74 : decode mX12_input.2.2.1 74 = .ok (.iload_n 1, 1) := by decide +kernel
theorem d_X12_input_75 : decode mX12_input.2.2.1 75 = .ok (.aload_n 0, 1) := by decide +kernel
theorem d_X12_input_76 : decode mX12_input.2.2.1 76 = .ok (.aload_n 0, 1) := by decide +kernel
theorem d_X12_input_77 : decode mX12_input.2.2.1 77 = .ok (.getfield 85, 3) := by decide +kernel
theorem d_X12_input_80 : decode mX12_input.2.2.1 80 = .ok (.iload_n 1, 1) := by decide +kernel
theorem d_X12_input_81 : decode mX12_input.2.2.1 81 = .ok (.iaload, 1) := by decide +kernel
theorem d_X12_input_82 : decode mX12_input.2.2.1 82 = .ok (.bipush 99, 2) := by decide +kernel
theorem d_X12_input_84 : decode mX12_input.2.2.1 84 = .ok (.invokevirtual 516, 3) := by decide +kernel
theorem d_X12_input_87 : decode mX12_input.2.2.1 87 = .ok (.iastore, 1) := by decide +kernel
theorem d_X12_input_88 : decode mX12_input.2.2.1 88 = .ok (.aload_n 0, 1) := by decide +kernel
theorem d_X12_input_89 : decode mX12_input.2.2.1 89 = .ok (.getfield 36, 3) := by decide +kernel
theorem d_X12_input_92 : decode mX12_input.2.2.1 92 = .ok (.ifCond .ne 16, 3) := by decide +kernel
theorem d_X12_input_108 : decode mX12_input.2.2.1 108 = .ok (.return_, 1) := by decide +kernel
theorem d_X12_input_95 : decode mX12_input.2.2.1 95 = .ok (.aload_n 0, 1) := by decide +kernel
theorem d_X12_input_96 : decode mX12_input.2.2.1 96 = .ok (.getfield 66, 3) := by decide +kernel
theorem d_X12_input_99 : decode mX12_input.2.2.1 99 = .ok (.aload_n 0, 1) := by decide +kernel
theorem d_X12_input_100 : decode mX12_input.2.2.1 100 = .ok (.getfield 124, 3) := by decide +kernel
theorem d_X12_input_103 : decode mX12_input.2.2.1 103 = .ok (.dup2, 1) := by decide +kernel
theorem d_X12_input_104 : decode mX12_input.2.2.1 104 = .ok (.iaload, 1) := by decide +kernel
theorem d_X12_input_105 : decode mX12_input.2.2.1 105 = .ok (.iconst 1, 1) := by decide +kernel
theorem d_X12_input_106 : decode mX12_input.2.2.1 106 = .ok (.iadd, 1) := by decide +kernel
theorem d_X12_input_107 : decode mX12_input.2.2.1 107 = .ok (.iastore, 1) := by decide +kernel
theorem d_X12_input_29 : decode mX12_input.2.2.1 29 = .ok (.return_, 1) := by decide +kernel
theorem ok_X12_input : e_m mX12_input 0 := ⟨tblG_in (inT8 (List.mem_of_getElem? (i := 183) rfl)) rfl, plainFor_of_name (by decide), rfl, ini_12, by decide +kernel, by decide⟩
theorem d_X12_declares_130 : decode mX12_declares.2.2.1 130 = .ok (.goto 22, 3) := by decide +kernel
theorem d_X12_declares_109 : decode mX12_declares.2.2.1 109 = .ok (.aload_n 0, 1) := by decide +kernel
theorem d_X12_declares_110 : decode mX12_declares.2.2.1 110 = .ok (.invokevirtual 520, 3) := by decide +kernel
def mX12_part : MD := (12, yX12_part, cX12_part, 2, none)
theorem sel_X12_part : Cond.instanceMethod mX12_part.2.1 ∈ tblG ∧ Cond.selects mX12_part.2.1.cls mX12_part.2.1 mX12_part.2.1 ∈ tblG := ⟨tblG_in (inT8 (List.mem_of_getElem? (i := 126) rfl)) rfl, tblG_in (inP5 (q := (mX12_part.2.1, 121)) (List.mem_of_getElem? (i := 14) rfl)) rfl⟩
theorem s_12_520 : e_siteV 12 520 mX12_part 12 := ⟨tblG_in (inT8 (List.mem_of_getElem? (i := 124) rfl)) rfl, sel_X12_part.1, sel_X12_part.2, rfl⟩
theorem d_X12_part_0 : decode mX12_part.2.2.1 0 = .ok (.aload_n 0, 1) := by decide +kernel
theorem d_X12_part_1 : decode mX12_part.2.2.1 1 = .ok (.aload_n 0, 1) := by decide +kernel
theorem d_X12_part_2 : decode mX12_part.2.2.1 2 = .ok (.getfield 63, 3) := by decide +kernel
theorem d_X12_part_5 : decode mX12_part.2.2.1 5 = .ok (.aload_n 0, 1) := by decide +kernel
theorem d_X12_part_6 : decode mX12_part.2.2.1 6 = .ok (.getfield 124, 3) := by decide +kernel
theorem d_X12_part_9 : decode mX12_part.2.2.1 9 = .ok (.iaload, 1) := by decide +kernel
theorem d_X12_part_10 : decode mX12_part.2.2.1 10 = .ok (.bipush 6, 2) := by decide +kernel
theorem d_X12_part_12 : decode mX12_part.2.2.1 12 = .ok (.if_icmp .ne 7, 3) := by decide +kernel
theorem d_X12_part_19 : decode mX12_part.2.2.1 19 = .ok (.iconst 0, 1) := by decide +kernel
theorem d_X12_part_15 : decode mX12_part.2.2.1 15 = .ok (.iconst 1, 1) := by decide +kernel
theorem d_X12_part_16 : decode mX12_part.2.2.1 16 = .ok (.goto 4, 3) := by decide +kernel
theorem d_X12_part_20 : decode mX12_part.2.2.1 20 = .ok (.invokevirtual 505, 3) := by decide +kernel
theorem d_X12_part_23 : decode mX12_part.2.2.1 23 = .ok (.aload_n 0, 1) := by decide +kernel
theorem d_X12_part_24 : decode mX12_part.2.2.1 24 = .ok (.getfield 36, 3) := by decide +kernel
theorem d_X12_part_27 : decode mX12_part.2.2.1 27 = .ok (.ifCond .le 4, 3) := by decide +kernel
theorem d_X12_part_31 : decode mX12_part.2.2.1 31 = .ok (.bipush 6, 2) := by decide +kernel
theorem d_X12_part_33 : decode mX12_part.2.2.1 33 = .ok (.aload_n 0, 1) := by decide +kernel
theorem d_X12_part_34 : decode mX12_part.2.2.1 34 = .ok (.getfield 124, 3) := by decide +kernel
theorem d_X12_part_37 : decode mX12_part.2.2.1 37 = .ok (.imul, 1) := by decide +kernel
theorem d_X12_part_38 : decode mX12_part.2.2.1 38 = .ok (.aload_n 0, 1) := by decide +kernel
theorem d_X12_part_39 : decode mX12_part.2.2.1 39 = .ok (.getfield 63, 3) := by decide +kernel
theorem d_X12_part_42 : decode mX12_part.2.2.1 42 = .ok (.aload_n 0, 1) := by decide +kernel
theorem d_X12_part_43 : decode mX12_part.2.2.1 43 = .ok (.getfield 124, 3) := by decide +kernel
theorem d_X12_part_46 : decode mX12_part.2.2.1 46 = .ok (.iaload, 1) := by decide +kernel
theorem d_X12_part_47 : decode mX12_part.2.2.1 47 = .ok (.iadd, 1) := by decide +kernel
theorem d_X12_part_48 : decode mX12_part.2.2.1 48 = .ok (.istore_n 1, 1) := by decide +kernel
theorem d_X12_part_49 : decode mX12_part.2.2.1 49 = .ok (.aload_n 0, 1) := by decide +kernel
theorem d_X12_part_50 : decode mX12_part.2.2.1 50 = .ok (.getfield 75, 3) := by decide +kernel
theorem d_X12_part_53 : decode mX12_part.2.2.1 53 = .ok (.iload_n 1, 1) := by decide +kernel
theorem d_X12_part_54 : decode mX12_part.2.2.1 54 = .ok (.aload_n 0, 1) := by decide +kernel
theorem d_X12_part_55 : decode mX12_part.2.2.1 55 = .ok (.invokevirtual 508, 3) := by decide +kernel
theorem d_X12_part_58 : decode mX12_part.2.2.1 58 = .ok (.lastore, 1) := by decide +kernel
theorem d_X12_part_59 : decode mX12_part.2.2.1 59 = .ok (.aload_n 0, 1) := by decide +kernel
theorem d_X12_part_60 : decode mX12_part.2.2.1 60 = .ok (.ldc2_w 405, 3) := by decide +kernel
theorem d_X12_part_63 : decode mX12_part.2.2.1 63 = .ok (.invokevirtual 512, 3) := by decide +kernel
def mX12_must_ : MD := (12, yX12_must_, cX12_must_, 3, none)
theorem sel_X12_must_ : Cond.instanceMethod mX12_must_.2.1 ∈ tblG ∧ Cond.selects mX12_must_.2.1.cls mX12_must_.2.1 mX12_must_.2.1 ∈ tblG := ⟨tblG_in (inT8 (List.mem_of_getElem? (i := 178) rfl)) rfl, tblG_in (inP6 (q := (mX12_must_.2.1, 121)) (List.mem_of_getElem? (i := 5) rfl)) rfl⟩
theorem s_12_512 : e_siteV 12 512 mX12_must_ 12 := ⟨tblG_in (inT8 (List.mem_of_getElem? (i := 176) rfl)) rfl, sel_X12_must_.1, sel_X12_must_.2, rfl⟩
