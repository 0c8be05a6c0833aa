theorem d_X5_takeSign_15 : decode mX5_takeSign.2.2.1 15 = .ok (.aload_n 0, 1) := by decide +kernel
theorem d_X5_takeSign_16 : decode mX5_takeSign.2.2.1 16 = .ok (.iconst 1, 1) := by decide +kernel
theorem d_X5_takeSign_17 : decode mX5_takeSign.2.2.1 17 = .ok (.invokevirtual 56, 3) := by decide +kernel
theorem d_X5_takeSign_20 : decode mX5_takeSign.2.2.1 20 = .ok (.ireturn, 1) := by decide +kernel
theorem d_X5_takeSign_8 : decode mX5_takeSign.2.2.1 8 = .ok (.aload_n 0, 1) := by decide +kernel
theorem d_X5_takeSign_9 : decode mX5_takeSign.2.2.1 9 = .ok (.invokevirtual 74, 3) := by decide +kernel
theorem d_X5_takeSign_12 : decode mX5_takeSign.2.2.1 12 = .ok (.goto 8, 3) := by decide +kernel
theorem ok_X5_takeSign : e_m mX5_takeSign 1 := ⟨tblG_in (inT4 (List.mem_of_getElem? (i := 45) rfl)) rfl, plainFor_of_name (by decide), rfl, ini_5, by decide +kernel, by decide⟩
theorem d_X5_declaration_66 : decode mX5_declaration.2.2.1 66 = .ok (.ifCond .eq 7, 3) := by decide +kernel
theorem d_X5_declaration_69 : decode mX5_declaration.2.2.1 69 = .ok (.iconst 1, 1) := by decide +kernel
theorem d_X5_declaration_70 : decode mX5_declaration.2.2.1 70 = .ok (.goto 4, 3) := by decide +kernel
theorem d_X5_declaration_47 : decode mX5_declaration.2.2.1 47 = .ok (.aload_n 0, 1) := by decide +kernel
theorem d_X5_declaration_48 : decode mX5_declaration.2.2.1 48 = .ok (.invokevirtual 109, 3) := by decide +kernel
def mX5_input : MD := (5, yX5_input, cX5_input, 4, some .boolean)
theorem sel_X5_input : Cond.instanceMethod mX5_input.2.1 ∈ tblG ∧ Cond.selects mX5_input.2.1.cls mX5_input.2.1 mX5_input.2.1 ∈ tblG := ⟨tblG_in (inT4 (List.mem_of_getElem? (i := 92) rfl)) rfl, tblG_in (inP2 (q := (mX5_input.2.1, 7)) (List.mem_of_getElem? (i := 6) rfl)) rfl⟩
theorem s_5_109 : e_siteV 5 109 mX5_input 5 := ⟨tblG_in (inT4 (List.mem_of_getElem? (i := 90) rfl)) rfl, sel_X5_input.1, sel_X5_input.2, rfl⟩
theorem d_X5_input_0 : decode mX5_input.2.2.1 0 = .ok (.aload_n 0, 1) := by decide +kernel
theorem d_X5_input_1 : decode mX5_input.2.2.1 1 = .ok (.getfield 22, 3) := by decide +kernel
theorem d_X5_input_4 : decode mX5_input.2.2.1 4 = .ok (.getfield 133, 3) := by decide +kernel
theorem f_5_133 : e_fld 5 133 3 4 12 2 true := ⟨RX3, TX3, 4, rfl, rfl, by decide, rfl, rfl, rfl, iX3, tblG_in (inT1 (List.mem_of_getElem? (i := 177) rfl)) rfl, tyX3_ok, nmX3⟩
theorem d_X5_input_7 : decode mX5_input.2.2.1 7 = .ok (.iconst 1, 1) := by decide +kernel
theorem d_X5_input_8 : decode mX5_input.2.2.1 8 = .ok (.iaload, 1) := by decide +kernel
theorem d_X5_input_9 : decode mX5_input.2.2.1 9 = .ok (.istore_n 1, 1) := by decide +kernel
theorem d_X5_input_10 : decode mX5_input.2.2.1 10 = .ok (.aload_n 0, 1) := by decide +kernel
theorem d_X5_input_11 : decode mX5_input.2.2.1 11 = .ok (.iconst 1, 1) := by decide +kernel
theorem d_X5_input_12 : decode mX5_input.2.2.1 12 = .ok (.invokevirtual 112, 3) := by decide +kernel
theorem d_X5_input_15 : decode mX5_input.2.2.1 15 = .ok (.ifCond .eq 8, 3) := by decide +kernel
theorem d_X5_input_23 : decode mX5_input.2.2.1 23 = .ok (.iconst 0, 1) := by decide +kernel
theorem d_X5_input_24 : decode mX5_input.2.2.1 24 = .ok (.ireturn, 1) := by decide +kernel
theorem d_X5_input_18 : decode mX5_input.2.2.1 18 = .ok (.iload_n 1, 1) := by decide +kernel
theorem d_X5_input_19 : decode mX5_input.2.2.1 19 = .ok (.iconst 3, 1) := by decide +kernel
theorem d_X5_input_20 : decode mX5_input.2.2.1 20 = .ok (.if_icmp .lt 5, 3) := by decide +kernel
theorem d_X5_input_25 : decode mX5_input.2.2.1 25 = .ok (.aload_n 0, 1) := by decide +kernel
theorem d_X5_input_26 : decode mX5_input.2.2.1 26 = .ok (.iconst 0, 1) := by decide +kernel
theorem d_X5_input_27 : decode mX5_input.2.2.1 27 = .ok (.bipush 99, 2) := by decide +kernel
theorem d_X5_input_29 : decode mX5_input.2.2.1 29 = .ok (.invokevirtual 87, 3) := by decide +kernel
def mX5_takeNumber : MD := (5, yX5_takeNumber, cX5_takeNumber, 4, some .int)
theorem sel_X5_takeNumber : Cond.instanceMethod mX5_takeNumber.2.1 ∈ tblG ∧ Cond.selects mX5_takeNumber.2.1.cls mX5_takeNumber.2.1 mX5_takeNumber.2.1 ∈ tblG := ⟨tblG_in (inT4 (List.mem_of_getElem? (i := 36) rfl)) rfl, tblG_in (inP1 (q := (mX5_takeNumber.2.1, 7)) (List.mem_of_getElem? (i := 12) rfl)) rfl⟩
theorem s_5_87 : e_siteV 5 87 mX5_takeNumber 5 := ⟨tblG_in (inT4 (List.mem_of_getElem? (i := 34) rfl)) rfl, sel_X5_takeNumber.1, sel_X5_takeNumber.2, rfl⟩
theorem d_X5_takeNumber_0 : decode mX5_takeNumber.2.2.1 0 = .ok (.aload_n 0, 1) := by decide +kernel
theorem d_X5_takeNumber_1 : decode mX5_takeNumber.2.2.1 1 = .ok (.getfield 18, 3) := by decide +kernel
theorem d_X5_takeNumber_4 : decode mX5_takeNumber.2.2.1 4 = .ok (.getfield 50, 3) := by decide +kernel
theorem d_X5_takeNumber_7 : decode mX5_takeNumber.2.2.1 7 = .ok (.aload_n 0, 1) := by decide +kernel
theorem d_X5_takeNumber_8 : decode mX5_takeNumber.2.2.1 8 = .ok (.getfield 36, 3) := by decide +kernel
theorem d_X5_takeNumber_11 : decode mX5_takeNumber.2.2.1 11 = .ok (.iaload, 1) := by decide +kernel
theorem d_X5_takeNumber_12 : decode mX5_takeNumber.2.2.1 12 = .ok (.iconst 4, 1) := by decide +kernel
theorem d_X5_takeNumber_13 : decode mX5_takeNumber.2.2.1 13 = .ok (.if_icmp .eq 11, 3) := by decide +kernel
theorem d_X5_takeNumber_24 : decode mX5_takeNumber.2.2.1 24 = .ok (.aload_n 0, 1) := by decide +kernel
theorem d_X5_takeNumber_25 : decode mX5_takeNumber.2.2.1 25 = .ok (.getfield 18, 3) := by decide +kernel
theorem d_X5_takeNumber_28 : decode mX5_takeNumber.2.2.1 28 = .ok (.getfield 68, 3) := by decide +kernel
theorem d_X5_takeNumber_31 : decode mX5_takeNumber.2.2.1 31 = .ok (.aload_n 0, 1) := by decide +kernel
theorem d_X5_takeNumber_32 : decode mX5_takeNumber.2.2.1 32 = .ok (.getfield 36, 3) := by decide +kernel
theorem d_X5_takeNumber_35 : decode mX5_takeNumber.2.2.1 35 = .ok (.iaload, 1) := by decide +kernel
theorem d_X5_takeNumber_36 : decode mX5_takeNumber.2.2.1 36 = .ok (.istore_n 3, 1) := by decide +kernel
theorem d_X5_takeNumber_37 : decode mX5_takeNumber.2.2.1 37 = .ok (.iload_n 3, 1) := by decide +kernel
theorem d_X5_takeNumber_38 : decode mX5_takeNumber.2.2.1 38 = .ok (.iload_n 1, 1) := by decide +kernel
theorem d_X5_takeNumber_39 : decode mX5_takeNumber.2.2.1 39 = .ok (.if_icmp .lt 8, 3) := by decide +kernel
theorem d_X5_takeNumber_42 : decode mX5_takeNumber.2.2.1 42 = .ok (.iload_n 3, 1) := by decide +kernel
theorem d_X5_takeNumber_43 : decode mX5_takeNumber.2.2.1 43 = .ok (.iload_n 2, 1) := by decide +kernel
theorem d_X5_takeNumber_44 : decode mX5_takeNumber.2.2.1 44 = .ok (.if_icmp .le 11, 3) := by decide +kernel
theorem d_X5_takeNumber_55 : decode mX5_takeNumber.2.2.1 55 = .ok (.aload_n 0, 1) := by decide +kernel
theorem d_X5_takeNumber_56 : decode mX5_takeNumber.2.2.1 56 = .ok (.invokevirtual 74, 3) := by decide +kernel
theorem d_X5_takeNumber_59 : decode mX5_takeNumber.2.2.1 59 = .ok (.pop, 1) := by decide +kernel
theorem d_X5_takeNumber_60 : decode mX5_takeNumber.2.2.1 60 = .ok (.iload_n 3, 1) := by decide +kernel
theorem d_X5_takeNumber_61 : decode mX5_takeNumber.2.2.1 61 = .ok (.ireturn, 1) := by decide +kernel
theorem d_X5_takeNumber_16 : decode mX5_takeNumber.2.2.1 16 = .ok (.aload_n 0, 1) := by decide +kernel
theorem d_X5_takeNumber_17 : decode mX5_takeNumber.2.2.1 17 = .ok (.iconst 1, 1) := by decide +kernel
theorem d_X5_takeNumber_18 : decode mX5_takeNumber.2.2.1 18 = .ok (.invokevirtual 56, 3) := by decide +kernel
theorem d_X5_takeNumber_21 : decode mX5_takeNumber.2.2.1 21 = .ok (.pop, 1) := by decide +kernel
theorem d_X5_takeNumber_22 : decode mX5_takeNumber.2.2.1 22 = .ok (.iconst (-1), 1) := by decide +kernel
theorem d_X5_takeNumber_23 : decode mX5_takeNumber.2.2.1 23 = .ok (.ireturn, 1) := by decide +kernel
theorem d_X5_takeNumber_47 : decode mX5_takeNumber.2.2.1 47 = .ok (.aload_n 0, 1) := by decide +kernel
theorem d_X5_takeNumber_48 : decode mX5_takeNumber.2.2.1 48 = .ok (.iconst 4, 1) := by decide +kernel
theorem d_X5_takeNumber_49 : decode mX5_takeNumber.2.2.1 49 = .ok (.invokevirtual 56, 3) := by decide +kernel
theorem d_X5_takeNumber_52 : decode mX5_takeNumber.2.2.1 52 = .ok (.pop, 1) := by decide +kernel
theorem d_X5_takeNumber_53 : decode mX5_takeNumber.2.2.1 53 = .ok (.iconst (-1), 1) := by decide +kernel
theorem d_X5_takeNumber_54 : decode mX5_takeNumber.2.2.1 54 = .ok (.ireturn, 1) := by decide +kernel
theorem ok_X5_takeNumber : e_m mX5_takeNumber 2 := ⟨tblG_in (inT4 (List.mem_of_getElem? (i := 37) rfl)) rfl, plainFor_of_name (by decide), rfl, ini_5, by decide +kernel, by decide⟩
theorem d_X5_input_32 : decode mX5_input.2.2.1 32 = .ok (.istore_n 2, 1) := by decide +kernel
theorem d_X5_input_33 : decode mX5_input.2.2.1 33 = .ok (.iload_n 2, 1) := by decide +kernel
theorem d_X5_input_34 : decode mX5_input.2.2.1 34 = .ok (.ifCond .ge 7, 3) := by decide +kernel
theorem d_X5_input_41 : decode mX5_input.2.2.1 41 = .ok (.aload_n 0, 1) := by decide +kernel
theorem d_X5_input_42 : decode mX5_input.2.2.1 42 = .ok (.iload_n 2, 1) := by decide +kernel
theorem d_X5_input_43 : decode mX5_input.2.2.1 43 = .ok (.bipush 99, 2) := by decide +kernel
theorem d_X5_input_45 : decode mX5_input.2.2.1 45 = .ok (.invokevirtual 87, 3) := by decide +kernel
theorem d_X5_input_37 : decode mX5_input.2.2.1 37 = .ok (.iconst (-1), 1) := by decide +kernel
theorem d_X5_input_38 : decode mX5_input.2.2.1 38 = .ok (.goto 10, 3) := by decide +kernel
theorem d_X5_input_48 : decode mX5_input.2.2.1 48 = .ok (.istore_n 3, 1) := by decide +kernel
theorem d_X5_input_49 : decode mX5_input.2.2.1 49 = .ok (.iload_n 3, 1) := by decide +kernel
theorem d_X5_input_50 : decode mX5_input.2.2.1 50 = .ok (.ifCond .lt 12, 3) := by decide +kernel
theorem d_X5_input_62 : decode mX5_input.2.2.1 62 = .ok (.iconst 0, 1) := by decide +kernel
theorem d_X5_input_63 : decode mX5_input.2.2.1 63 = .ok (.ireturn, 1) := by decide +kernel
theorem d_X5_input_53 : decode mX5_input.2.2.1 53 = .ok (.aload_n 0, 1) := by decide +kernel
theorem d_X5_input_54 : decode mX5_input.2.2.1 54 = .ok (.bipush 59, 2) := by decide +kernel
theorem d_X5_input_56 : decode mX5_input.2.2.1 56 = .ok (.invokevirtual 81, 3) := by decide +kernel
theorem d_X5_input_59 : decode mX5_input.2.2.1 59 = .ok (.ifCond .ne 5, 3) := by decide +kernel
theorem d_X5_input_64 : decode mX5_input.2.2.1 64 = .ok (.aload_n 0, 1) := by decide +kernel
theorem d_X5_input_65 : decode mX5_input.2.2.1 65 = .ok (.getfield 22, 3) := by decide +kernel
theorem d_X5_input_68 : decode mX5_input.2.2.1 68 = .ok (.getfield 148, 3) := by decide +kernel
theorem f_5_148 : e_fld 5 148 3 8 12 2 true := ⟨RX3, TX3, 8, rfl, rfl, by decide, rfl, rfl, rfl, iX3, tblG_in (inT1 (List.mem_of_getElem? (i := 197) rfl)) rfl, tyX3_ok, nmX3⟩
theorem d_X5_input_71 : decode mX5_input.2.2.1 71 = .ok (.iload_n 1, 1) := by decide +kernel
theorem d_X5_input_72 : decode mX5_input.2.2.1 72 = .ok (.iload_n 2, 1) := by decide +kernel
theorem d_X5_input_73 : decode mX5_input.2.2.1 73 = .ok (.iastore, 1) := by decide +kernel
theorem d_X5_input_74 : decode mX5_input.2.2.1 74 = .ok (.aload_n 0, 1) := by decide +kernel
theorem d_X5_input_75 : decode mX5_input.2.2.1 75 = .ok (.getfield 22, 3) := by decide +kernel
theorem d_X5_input_78 : decode mX5_input.2.2.1 78 = .ok (.getfield 151, 3) := by decide +kernel
theorem f_5_151 : e_fld 5 151 3 9 12 2 true := ⟨RX3, TX3, 9, rfl, rfl, by decide, rfl, rfl, rfl, iX3, tblG_in (inT1 (List.mem_of_getElem? (i := 201) rfl)) rfl, tyX3_ok, nmX3⟩
theorem d_X5_input_81 : decode mX5_input.2.2.1 81 = .ok (.iload_n 1, 1) := by decide +kernel
theorem d_X5_input_82 : decode mX5_input.2.2.1 82 = .ok (.iload_n 3, 1) := by decide +kernel
theorem d_X5_input_83 : decode mX5_input.2.2.1 83 = .ok (.iastore, 1) := by decide +kernel
theorem d_X5_input_84 : decode mX5_input.2.2.1 84 = .ok (.iconst 1, 1) := by decide +kernel
theorem d_X5_input_85 : decode mX5_input.2.2.1 85 = .ok (.ireturn, 1) := by decide +kernel
theorem ok_X5_input : e_m mX5_input 0 := ⟨tblG_in (inT4 (List.mem_of_getElem? (i := 93) rfl)) rfl, plainFor_of_name (by decide), rfl, ini_5, by decide +kernel, by decide⟩
theorem d_X5_declaration_51 : decode mX5_declaration.2.2.1 51 = .ok (.ireturn, 1) := by decide +kernel
theorem d_X5_declaration_42 : decode mX5_declaration.2.2.1 42 = .ok (.aload_n 0, 1) := by decide +kernel
theorem d_X5_declaration_43 : decode mX5_declaration.2.2.1 43 = .ok (.invokevirtual 106, 3) := by decide +kernel
def mX5_part : MD := (5, yX5_part, cX5_part, 8, some .boolean)
theorem sel_X5_part : Cond.instanceMethod mX5_part.2.1 ∈ tblG ∧ Cond.selects mX5_part.2.1.cls mX5_part.2.1 mX5_part.2.1 ∈ tblG := ⟨tblG_in (inT4 (List.mem_of_getElem? (i := 56) rfl)) rfl, tblG_in (inP2 (q := (mX5_part.2.1, 7)) (List.mem_of_getElem? (i := 1) rfl)) rfl⟩
theorem s_5_106 : e_siteV 5 106 mX5_part 5 := ⟨tblG_in (inT4 (List.mem_of_getElem? (i := 54) rfl)) rfl, sel_X5_part.1, sel_X5_part.2, rfl⟩
theorem d_X5_part_0 : decode mX5_part.2.2.1 0 = .ok (.aload_n 0, 1) := by decide +kernel
theorem d_X5_part_1 : decode mX5_part.2.2.1 1 = .ok (.getfield 22, 3) := by decide +kernel
theorem d_X5_part_4 : decode mX5_part.2.2.1 4 = .ok (.getfield 133, 3) := by decide +kernel
theorem d_X5_part_7 : decode mX5_part.2.2.1 7 = .ok (.iconst 0, 1) := by decide +kernel
theorem d_X5_part_8 : decode mX5_part.2.2.1 8 = .ok (.iaload, 1) := by decide +kernel
theorem d_X5_part_9 : decode mX5_part.2.2.1 9 = .ok (.istore_n 1, 1) := by decide +kernel
theorem d_X5_part_10 : decode mX5_part.2.2.1 10 = .ok (.aload_n 0, 1) := by decide +kernel
theorem d_X5_part_11 : decode mX5_part.2.2.1 11 = .ok (.iconst 0, 1) := by decide +kernel
theorem d_X5_part_12 : decode mX5_part.2.2.1 12 = .ok (.invokevirtual 112, 3) := by decide +kernel
theorem d_X5_part_15 : decode mX5_part.2.2.1 15 = .ok (.ifCond .eq 9, 3) := by decide +kernel
theorem d_X5_part_24 : decode mX5_part.2.2.1 24 = .ok (.iconst 0, 1) := by decide +kernel
theorem d_X5_part_25 : decode mX5_part.2.2.1 25 = .ok (.ireturn, 1) := by decide +kernel
theorem d_X5_part_18 : decode mX5_part.2.2.1 18 = .ok (.iload_n 1, 1) := by decide +kernel
theorem d_X5_part_19 : decode mX5_part.2.2.1 19 = .ok (.bipush 6, 2) := by decide +kernel
theorem d_X5_part_21 : decode mX5_part.2.2.1 21 = .ok (.if_icmp .lt 5, 3) := by decide +kernel
theorem d_X5_part_26 : decode mX5_part.2.2.1 26 = .ok (.aload_n 0, 1) := by decide +kernel
theorem d_X5_part_27 : decode mX5_part.2.2.1 27 = .ok (.bipush 14, 2) := by decide +kernel
theorem d_X5_part_29 : decode mX5_part.2.2.1 29 = .ok (.sipush 999, 3) := by decide +kernel
theorem d_X5_part_32 : decode mX5_part.2.2.1 32 = .ok (.invokevirtual 136, 3) := by decide +kernel
def mX5_takeTold : MD := (5, yX5_takeTold, cX5_takeTold, 3, some .int)
theorem sel_X5_takeTold : Cond.instanceMethod mX5_takeTold.2.1 ∈ tblG ∧ Cond.selects mX5_takeTold.2.1.cls mX5_takeTold.2.1 mX5_takeTold.2.1 ∈ tblG := ⟨tblG_in (inT4 (List.mem_of_getElem? (i := 80) rfl)) rfl, tblG_in (inP2 (q := (mX5_takeTold.2.1, 7)) (List.mem_of_getElem? (i := 3) rfl)) rfl⟩
theorem s_5_136 : e_siteV 5 136 mX5_takeTold 5 := ⟨tblG_in (inT4 (List.mem_of_getElem? (i := 78) rfl)) rfl, sel_X5_takeTold.1, sel_X5_takeTold.2, rfl⟩
theorem d_X5_takeTold_0 : decode mX5_takeTold.2.2.1 0 = .ok (.aload_n 0, 1) := by decide +kernel
theorem d_X5_takeTold_1 : decode mX5_takeTold.2.2.1 1 = .ok (.iload_n 1, 1) := by decide +kernel
theorem d_X5_takeTold_2 : decode mX5_takeTold.2.2.1 2 = .ok (.invokevirtual 84, 3) := by decide +kernel
def mX5_takeOwn : MD := (5, yX5_takeOwn, cX5_takeOwn, 2, some .boolean)
theorem sel_X5_takeOwn : Cond.instanceMethod mX5_takeOwn.2.1 ∈ tblG ∧ Cond.selects mX5_takeOwn.2.1.cls mX5_takeOwn.2.1 mX5_takeOwn.2.1 ∈ tblG := ⟨tblG_in (inT4 (List.mem_of_getElem? (i := 84) rfl)) rfl, tblG_in (inP2 (q := (mX5_takeOwn.2.1, 7)) (List.mem_of_getElem? (i := 4) rfl)) rfl⟩
theorem s_5_84 : e_siteV 5 84 mX5_takeOwn 5 := ⟨tblG_in (inT4 (List.mem_of_getElem? (i := 82) rfl)) rfl, sel_X5_takeOwn.1, sel_X5_takeOwn.2, rfl⟩
theorem d_X5_takeOwn_0 : decode mX5_takeOwn.2.2.1 0 = .ok (.aload_n 0, 1) := by decide +kernel
theorem d_X5_takeOwn_1 : decode mX5_takeOwn.2.2.1 1 = .ok (.iload_n 1, 1) := by decide +kernel
theorem d_X5_takeOwn_2 : decode mX5_takeOwn.2.2.1 2 = .ok (.invokevirtual 71, 3) := by decide +kernel
def mX5_isOwn : MD := (5, yX5_isOwn, cX5_isOwn, 2, some .boolean)
theorem sel_X5_isOwn : Cond.instanceMethod mX5_isOwn.2.1 ∈ tblG ∧ Cond.selects mX5_isOwn.2.1.cls mX5_isOwn.2.1 mX5_isOwn.2.1 ∈ tblG := ⟨tblG_in (inT4 (List.mem_of_getElem? (i := 88) rfl)) rfl, tblG_in (inP2 (q := (mX5_isOwn.2.1, 7)) (List.mem_of_getElem? (i := 5) rfl)) rfl⟩
theorem s_5_71 : e_siteV 5 71 mX5_isOwn 5 := ⟨tblG_in (inT4 (List.mem_of_getElem? (i := 86) rfl)) rfl, sel_X5_isOwn.1, sel_X5_isOwn.2, rfl⟩
theorem d_X5_isOwn_0 : decode mX5_isOwn.2.2.1 0 = .ok (.aload_n 0, 1) := by decide +kernel
theorem d_X5_isOwn_1 : decode mX5_isOwn.2.2.1 1 = .ok (.getfield 18, 3) := by decide +kernel
theorem d_X5_isOwn_4 : decode mX5_isOwn.2.2.1 4 = .ok (.getfield 50, 3) := by decide +kernel
theorem d_X5_isOwn_7 : decode mX5_isOwn.2.2.1 7 = .ok (.aload_n 0, 1) := by decide +kernel
theorem d_X5_isOwn_8 : decode mX5_isOwn.2.2.1 8 = .ok (.getfield 36, 3) := by decide +kernel
theorem d_X5_isOwn_11 : decode mX5_isOwn.2.2.1 11 = .ok (.iaload, 1) := by decide +kernel
theorem d_X5_isOwn_12 : decode mX5_isOwn.2.2.1 12 = .ok (.iconst 2, 1) := by decide +kernel
theorem d_X5_isOwn_13 : decode mX5_isOwn.2.2.1 13 = .ok (.if_icmp .ne 23, 3) := by decide +kernel
theorem d_X5_isOwn_36 : decode mX5_isOwn.2.2.1 36 = .ok (.iconst 0, 1) := by decide +kernel
theorem d_X5_isOwn_37 : decode mX5_isOwn.2.2.1 37 = .ok (.ireturn, 1) := by decide +kernel
theorem d_X5_isOwn_16 : decode mX5_isOwn.2.2.1 16 = .ok (.aload_n 0, 1) := by decide +kernel
theorem d_X5_isOwn_17 : decode mX5_isOwn.2.2.1 17 = .ok (.getfield 18, 3) := by decide +kernel
theorem d_X5_isOwn_20 : decode mX5_isOwn.2.2.1 20 = .ok (.getfield 68, 3) := by decide +kernel
theorem d_X5_isOwn_23 : decode mX5_isOwn.2.2.1 23 = .ok (.aload_n 0, 1) := by decide +kernel
theorem d_X5_isOwn_24 : decode mX5_isOwn.2.2.1 24 = .ok (.getfield 36, 3) := by decide +kernel
theorem d_X5_isOwn_27 : decode mX5_isOwn.2.2.1 27 = .ok (.iaload, 1) := by decide +kernel
theorem d_X5_isOwn_28 : decode mX5_isOwn.2.2.1 28 = .ok (.iload_n 1, 1) := by decide +kernel
theorem d_X5_isOwn_29 : decode mX5_isOwn.2.2.1 29 = .ok (.if_icmp .ne 7, 3) := by decide +kernel
theorem d_X5_isOwn_32 : decode mX5_isOwn.2.2.1 32 = .ok (.iconst 1, 1) := by decide +kernel
theorem d_X5_isOwn_33 : decode mX5_isOwn.2.2.1 33 = .ok (.goto 4, 3) := by decide +kernel
theorem ok_X5_isOwn : e_m mX5_isOwn 1 := ⟨tblG_in (inT4 (List.mem_of_getElem? (i := 89) rfl)) rfl, plainFor_of_name (by decide), rfl, ini_5, by decide +kernel, by decide⟩
theorem d_X5_takeOwn_5 : decode mX5_takeOwn.2.2.1 5 = .ok (.ifCond .eq 10, 3) := by decide +kernel
theorem d_X5_takeOwn_15 : decode mX5_takeOwn.2.2.1 15 = .ok (.aload_n 0, 1) := by decide +kernel
theorem d_X5_takeOwn_16 : decode mX5_takeOwn.2.2.1 16 = .ok (.iconst 1, 1) := by decide +kernel
theorem d_X5_takeOwn_17 : decode mX5_takeOwn.2.2.1 17 = .ok (.invokevirtual 56, 3) := by decide +kernel
theorem d_X5_takeOwn_20 : decode mX5_takeOwn.2.2.1 20 = .ok (.ireturn, 1) := by decide +kernel
theorem d_X5_takeOwn_8 : decode mX5_takeOwn.2.2.1 8 = .ok (.aload_n 0, 1) := by decide +kernel
theorem d_X5_takeOwn_9 : decode mX5_takeOwn.2.2.1 9 = .ok (.invokevirtual 74, 3) := by decide +kernel
theorem d_X5_takeOwn_12 : decode mX5_takeOwn.2.2.1 12 = .ok (.goto 8, 3) := by decide +kernel
theorem ok_X5_takeOwn : e_m mX5_takeOwn 1 := ⟨tblG_in (inT4 (List.mem_of_getElem? (i := 85) rfl)) rfl, plainFor_of_name (by decide), rfl, ini_5, by decide +kernel, by decide⟩
theorem d_X5_takeTold_5 : decode mX5_takeTold.2.2.1 5 = .ok (.ifCond .eq 12, 3) := by decide +kernel
theorem d_X5_takeTold_17 : decode mX5_takeTold.2.2.1 17 = .ok (.iconst (-1), 1) := by decide +kernel
theorem d_X5_takeTold_18 : decode mX5_takeTold.2.2.1 18 = .ok (.ireturn, 1) := by decide +kernel
theorem d_X5_takeTold_8 : decode mX5_takeTold.2.2.1 8 = .ok (.aload_n 0, 1) := by decide +kernel
theorem d_X5_takeTold_9 : decode mX5_takeTold.2.2.1 9 = .ok (.iconst 0, 1) := by decide +kernel
theorem d_X5_takeTold_10 : decode mX5_takeTold.2.2.1 10 = .ok (.iload_n 2, 1) := by decide +kernel
theorem d_X5_takeTold_11 : decode mX5_takeTold.2.2.1 11 = .ok (.invokevirtual 87, 3) := by decide +kernel
theorem d_X5_takeTold_14 : decode mX5_takeTold.2.2.1 14 = .ok (.goto 4, 3) := by decide +kernel
theorem ok_X5_takeTold : e_m mX5_takeTold 2 := ⟨tblG_in (inT4 (List.mem_of_getElem? (i := 81) rfl)) rfl, plainFor_of_name (by decide), rfl, ini_5, by decide +kernel, by decide⟩
theorem d_X5_part_35 : decode mX5_part.2.2.1 35 = .ok (.istore_n 2, 1) := by decide +kernel
theorem d_X5_part_36 : decode mX5_part.2.2.1 36 = .ok (.iload_n 2, 1) := by decide +kernel
theorem d_X5_part_37 : decode mX5_part.2.2.1 37 = .ok (.ifCond .ge 7, 3) := by decide +kernel
theorem d_X5_part_44 : decode mX5_part.2.2.1 44 = .ok (.aload_n 0, 1) := by decide +kernel
theorem d_X5_part_45 : decode mX5_part.2.2.1 45 = .ok (.bipush 15, 2) := by decide +kernel
theorem d_X5_part_47 : decode mX5_part.2.2.1 47 = .ok (.bipush 20, 2) := by decide +kernel
theorem d_X5_part_49 : decode mX5_part.2.2.1 49 = .ok (.invokevirtual 136, 3) := by decide +kernel
theorem d_X5_part_40 : decode mX5_part.2.2.1 40 = .ok (.iconst (-1), 1) := by decide +kernel
theorem d_X5_part_41 : decode mX5_part.2.2.1 41 = .ok (.goto 11, 3) := by decide +kernel
theorem d_X5_part_52 : decode mX5_part.2.2.1 52 = .ok (.istore_n 3, 1) := by decide +kernel
theorem d_X5_part_53 : decode mX5_part.2.2.1 53 = .ok (.iload_n 3, 1) := by decide +kernel
theorem d_X5_part_54 : decode mX5_part.2.2.1 54 = .ok (.ifCond .ge 7, 3) := by decide +kernel
theorem d_X5_part_61 : decode mX5_part.2.2.1 61 = .ok (.aload_n 0, 1) := by decide +kernel
theorem d_X5_part_62 : decode mX5_part.2.2.1 62 = .ok (.iconst 0, 1) := by decide +kernel
theorem d_X5_part_63 : decode mX5_part.2.2.1 63 = .ok (.sipush 999, 3) := by decide +kernel
theorem d_X5_part_66 : decode mX5_part.2.2.1 66 = .ok (.invokevirtual 87, 3) := by decide +kernel
theorem d_X5_part_57 : decode mX5_part.2.2.1 57 = .ok (.iconst (-1), 1) := by decide +kernel
theorem d_X5_part_58 : decode mX5_part.2.2.1 58 = .ok (.goto 11, 3) := by decide +kernel
theorem d_X5_part_69 : decode mX5_part.2.2.1 69 = .ok (.istore 4, 2) := by decide +kernel
theorem d_X5_part_71 : decode mX5_part.2.2.1 71 = .ok (.iload 4, 2) := by decide +kernel
theorem d_X5_part_73 : decode mX5_part.2.2.1 73 = .ok (.ifCond .ge 7, 3) := by decide +kernel
theorem d_X5_part_80 : decode mX5_part.2.2.1 80 = .ok (.aload_n 0, 1) := by decide +kernel
theorem d_X5_part_81 : decode mX5_part.2.2.1 81 = .ok (.bipush 16, 2) := by decide +kernel
theorem d_X5_part_83 : decode mX5_part.2.2.1 83 = .ok (.sipush 999, 3) := by decide +kernel
theorem d_X5_part_86 : decode mX5_part.2.2.1 86 = .ok (.invokevirtual 136, 3) := by decide +kernel
theorem d_X5_part_76 : decode mX5_part.2.2.1 76 = .ok (.iconst (-1), 1) := by decide +kernel
theorem d_X5_part_77 : decode mX5_part.2.2.1 77 = .ok (.goto 12, 3) := by decide +kernel
theorem d_X5_part_89 : decode mX5_part.2.2.1 89 = .ok (.istore 5, 2) := by decide +kernel
theorem d_X5_part_91 : decode mX5_part.2.2.1 91 = .ok (.iload 5, 2) := by decide +kernel
theorem d_X5_part_93 : decode mX5_part.2.2.1 93 = .ok (.ifCond .ge 7, 3) := by decide +kernel
theorem d_X5_part_100 : decode mX5_part.2.2.1 100 = .ok (.aload_n 0, 1) := by decide +kernel
theorem d_X5_part_101 : decode mX5_part.2.2.1 101 = .ok (.bipush 17, 2) := by decide +kernel
theorem d_X5_part_103 : decode mX5_part.2.2.1 103 = .ok (.sipush 999, 3) := by decide +kernel
theorem d_X5_part_106 : decode mX5_part.2.2.1 106 = .ok (.invokevirtual 136, 3) := by decide +kernel
theorem d_X5_part_96 : decode mX5_part.2.2.1 96 = .ok (.iconst (-1), 1) := by decide +kernel
theorem d_X5_part_97 : decode mX5_part.2.2.1 97 = .ok (.goto 12, 3) := by decide +kernel
theorem d_X5_part_109 : decode mX5_part.2.2.1 109 = .ok (.istore 6, 2) := by decide +kernel
theorem d_X5_part_111 : decode mX5_part.2.2.1 111 = .ok (.iload 6, 2) := by decide +kernel
