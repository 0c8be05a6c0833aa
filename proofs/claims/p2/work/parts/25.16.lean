theorem d_X5_declarations_19 : decode mX5_declarations.2.2.1 19 = .ok (.getfield 50, 3) := by decide +kernel
theorem f_5_50 : e_fld 5 50 7 0 6 2 true := ⟨RX7, TX7, 0, rfl, rfl, by decide, rfl, rfl, rfl, iX7, tblG_in (inT1 (List.mem_of_getElem? (i := 39) rfl)) rfl, tyX7_ok, nmX7⟩
theorem d_X5_declarations_22 : decode mX5_declarations.2.2.1 22 = .ok (.aload_n 0, 1) := by decide +kernel
theorem d_X5_declarations_23 : decode mX5_declarations.2.2.1 23 = .ok (.getfield 36, 3) := by decide +kernel
theorem d_X5_declarations_26 : decode mX5_declarations.2.2.1 26 = .ok (.iaload, 1) := by decide +kernel
theorem d_X5_declarations_27 : decode mX5_declarations.2.2.1 27 = .ok (.iconst 2, 1) := by decide +kernel
theorem d_X5_declarations_28 : decode mX5_declarations.2.2.1 28 = .ok (.if_icmp .ne 42, 3) := by decide +kernel
theorem d_X5_declarations_70 : decode mX5_declarations.2.2.1 70 = .ok (.iload_n 1, 1) := by decide +kernel
theorem d_X5_declarations_71 : decode mX5_declarations.2.2.1 71 = .ok (.ireturn, 1) := by decide +kernel
theorem d_X5_declarations_31 : decode mX5_declarations.2.2.1 31 = .ok (.aload_n 0, 1) := by decide +kernel
theorem d_X5_declarations_32 : decode mX5_declarations.2.2.1 32 = .ok (.getfield 18, 3) := by decide +kernel
theorem d_X5_declarations_35 : decode mX5_declarations.2.2.1 35 = .ok (.getfield 68, 3) := by decide +kernel
theorem f_5_68 : e_fld 5 68 7 2 6 2 true := ⟨RX7, TX7, 2, rfl, rfl, by decide, rfl, rfl, rfl, iX7, tblG_in (inT1 (List.mem_of_getElem? (i := 43) rfl)) rfl, tyX7_ok, nmX7⟩
theorem d_X5_declarations_38 : decode mX5_declarations.2.2.1 38 = .ok (.aload_n 0, 1) := by decide +kernel
theorem d_X5_declarations_39 : decode mX5_declarations.2.2.1 39 = .ok (.getfield 36, 3) := by decide +kernel
theorem d_X5_declarations_42 : decode mX5_declarations.2.2.1 42 = .ok (.iaload, 1) := by decide +kernel
theorem d_X5_declarations_43 : decode mX5_declarations.2.2.1 43 = .ok (.iconst 4, 1) := by decide +kernel
theorem d_X5_declarations_44 : decode mX5_declarations.2.2.1 44 = .ok (.if_icmp .gt 26, 3) := by decide +kernel
theorem d_X5_declarations_47 : decode mX5_declarations.2.2.1 47 = .ok (.aload_n 0, 1) := by decide +kernel
theorem d_X5_declarations_48 : decode mX5_declarations.2.2.1 48 = .ok (.aload_n 0, 1) := by decide +kernel
theorem d_X5_declarations_49 : decode mX5_declarations.2.2.1 49 = .ok (.getfield 18, 3) := by decide +kernel
theorem d_X5_declarations_52 : decode mX5_declarations.2.2.1 52 = .ok (.getfield 68, 3) := by decide +kernel
theorem d_X5_declarations_55 : decode mX5_declarations.2.2.1 55 = .ok (.aload_n 0, 1) := by decide +kernel
theorem d_X5_declarations_56 : decode mX5_declarations.2.2.1 56 = .ok (.getfield 36, 3) := by decide +kernel
theorem d_X5_declarations_59 : decode mX5_declarations.2.2.1 59 = .ok (.iaload, 1) := by decide +kernel
theorem d_X5_declarations_60 : decode mX5_declarations.2.2.1 60 = .ok (.invokevirtual 97, 3) := by decide +kernel
def mX5_declaration : MD := (5, yX5_declaration, cX5_declaration, 2, some .boolean)
theorem sel_X5_declaration : Cond.instanceMethod mX5_declaration.2.1 ∈ tblG ∧ Cond.selects mX5_declaration.2.1.cls mX5_declaration.2.1 mX5_declaration.2.1 ∈ tblG := ⟨tblG_in (inT4 (List.mem_of_getElem? (i := 24) rfl)) rfl, tblG_in (inP1 (q := (mX5_declaration.2.1, 7)) (List.mem_of_getElem? (i := 9) rfl)) rfl⟩
theorem s_5_97 : e_siteV 5 97 mX5_declaration 5 := ⟨tblG_in (inT4 (List.mem_of_getElem? (i := 22) rfl)) rfl, sel_X5_declaration.1, sel_X5_declaration.2, rfl⟩
theorem d_X5_declaration_0 : decode mX5_declaration.2.2.1 0 = .ok (.iload_n 1, 1) := by decide +kernel
theorem d_X5_declaration_1 : decode mX5_declaration.2.2.1 1 = .ok (.tableswitch 51 0 3 #[31, 36, 41, 46], 31) := by decide +kernel
theorem d_X5_declaration_52 : decode mX5_declaration.2.2.1 52 = .ok (.aload_n 0, 1) := by decide +kernel
theorem d_X5_declaration_53 : decode mX5_declaration.2.2.1 53 = .ok (.iconst 2, 1) := by decide +kernel
theorem d_X5_declaration_54 : decode mX5_declaration.2.2.1 54 = .ok (.invokevirtual 112, 3) := by decide +kernel
def mX5_beginNamed : MD := (5, yX5_beginNamed, cX5_beginNamed, 2, some .boolean)
theorem sel_X5_beginNamed : Cond.instanceMethod mX5_beginNamed.2.1 ∈ tblG ∧ Cond.selects mX5_beginNamed.2.1.cls mX5_beginNamed.2.1 mX5_beginNamed.2.1 ∈ tblG := ⟨tblG_in (inT4 (List.mem_of_getElem? (i := 60) rfl)) rfl, tblG_in (inP2 (q := (mX5_beginNamed.2.1, 7)) (List.mem_of_getElem? (i := 2) rfl)) rfl⟩
theorem s_5_112 : e_siteV 5 112 mX5_beginNamed 5 := ⟨tblG_in (inT4 (List.mem_of_getElem? (i := 58) rfl)) rfl, sel_X5_beginNamed.1, sel_X5_beginNamed.2, rfl⟩
theorem d_X5_beginNamed_0 : decode mX5_beginNamed.2.2.1 0 = .ok (.aload_n 0, 1) := by decide +kernel
theorem d_X5_beginNamed_1 : decode mX5_beginNamed.2.2.1 1 = .ok (.getfield 22, 3) := by decide +kernel
theorem d_X5_beginNamed_4 : decode mX5_beginNamed.2.2.1 4 = .ok (.iload_n 1, 1) := by decide +kernel
theorem d_X5_beginNamed_5 : decode mX5_beginNamed.2.2.1 5 = .ok (.invokevirtual 126, 3) := by decide +kernel
def mX3_isFull : MD := (3, yX3_isFull, cX3_isFull, 2, some .boolean)
theorem sel_X3_isFull : Cond.instanceMethod mX3_isFull.2.1 ∈ tblG ∧ Cond.selects mX3_isFull.2.1.cls mX3_isFull.2.1 mX3_isFull.2.1 ∈ tblG := ⟨tblG_in (inT4 (List.mem_of_getElem? (i := 63) rfl)) rfl, tblG_in (inT4 (List.mem_of_getElem? (i := 64) rfl)) rfl⟩
theorem s_5_126 : e_siteV 5 126 mX3_isFull 3 := ⟨tblG_in (inT4 (List.mem_of_getElem? (i := 62) rfl)) rfl, sel_X3_isFull.1, sel_X3_isFull.2, rfl⟩
theorem d_X3_isFull_0 : decode mX3_isFull.2.2.1 0 = .ok (.aload_n 0, 1) := by decide +kernel
theorem d_X3_isFull_1 : decode mX3_isFull.2.2.1 1 = .ok (.getfield 11, 3) := by decide +kernel
theorem d_X3_isFull_4 : decode mX3_isFull.2.2.1 4 = .ok (.iload_n 1, 1) := by decide +kernel
theorem d_X3_isFull_5 : decode mX3_isFull.2.2.1 5 = .ok (.iaload, 1) := by decide +kernel
theorem d_X3_isFull_6 : decode mX3_isFull.2.2.1 6 = .ok (.getstatic 62, 3) := by decide +kernel
theorem d_X3_isFull_9 : decode mX3_isFull.2.2.1 9 = .ok (.iload_n 1, 1) := by decide +kernel
theorem d_X3_isFull_10 : decode mX3_isFull.2.2.1 10 = .ok (.iaload, 1) := by decide +kernel
theorem d_X3_isFull_11 : decode mX3_isFull.2.2.1 11 = .ok (.if_icmp .lt 7, 3) := by decide +kernel
theorem d_X3_isFull_18 : decode mX3_isFull.2.2.1 18 = .ok (.iconst 0, 1) := by decide +kernel
theorem d_X3_isFull_19 : decode mX3_isFull.2.2.1 19 = .ok (.ireturn, 1) := by decide +kernel
theorem d_X3_isFull_14 : decode mX3_isFull.2.2.1 14 = .ok (.iconst 1, 1) := by decide +kernel
theorem d_X3_isFull_15 : decode mX3_isFull.2.2.1 15 = .ok (.goto 4, 3) := by decide +kernel
theorem ok_X3_isFull : e_m mX3_isFull 1 := ⟨tblG_in (inT4 (List.mem_of_getElem? (i := 65) rfl)) rfl, plainFor_of_name (by decide), rfl, ini_3, by decide +kernel, by decide⟩
theorem d_X5_beginNamed_8 : decode mX5_beginNamed.2.2.1 8 = .ok (.ifCond .eq 9, 3) := by decide +kernel
theorem d_X5_beginNamed_17 : decode mX5_beginNamed.2.2.1 17 = .ok (.aload_n 0, 1) := by decide +kernel
theorem d_X5_beginNamed_18 : decode mX5_beginNamed.2.2.1 18 = .ok (.invokevirtual 74, 3) := by decide +kernel
def mX5_goOn : MD := (5, yX5_goOn, cX5_goOn, 1, some .boolean)
theorem sel_X5_goOn : Cond.instanceMethod mX5_goOn.2.1 ∈ tblG ∧ Cond.selects mX5_goOn.2.1.cls mX5_goOn.2.1 mX5_goOn.2.1 ∈ tblG := ⟨tblG_in (inT4 (List.mem_of_getElem? (i := 32) rfl)) rfl, tblG_in (inP1 (q := (mX5_goOn.2.1, 7)) (List.mem_of_getElem? (i := 11) rfl)) rfl⟩
theorem s_5_74 : e_siteV 5 74 mX5_goOn 5 := ⟨tblG_in (inT4 (List.mem_of_getElem? (i := 30) rfl)) rfl, sel_X5_goOn.1, sel_X5_goOn.2, rfl⟩
theorem d_X5_goOn_0 : decode mX5_goOn.2.2.1 0 = .ok (.aload_n 0, 1) := by decide +kernel
theorem d_X5_goOn_1 : decode mX5_goOn.2.2.1 1 = .ok (.getfield 36, 3) := by decide +kernel
theorem d_X5_goOn_4 : decode mX5_goOn.2.2.1 4 = .ok (.sipush 900, 3) := by decide +kernel
theorem d_X5_goOn_7 : decode mX5_goOn.2.2.1 7 = .ok (.if_icmp .ge 13, 3) := by decide +kernel
theorem d_X5_goOn_20 : decode mX5_goOn.2.2.1 20 = .ok (.iconst 1, 1) := by decide +kernel
theorem d_X5_goOn_21 : decode mX5_goOn.2.2.1 21 = .ok (.ireturn, 1) := by decide +kernel
theorem d_X5_goOn_10 : decode mX5_goOn.2.2.1 10 = .ok (.aload_n 0, 1) := by decide +kernel
theorem d_X5_goOn_11 : decode mX5_goOn.2.2.1 11 = .ok (.dup, 1) := by decide +kernel
theorem d_X5_goOn_12 : decode mX5_goOn.2.2.1 12 = .ok (.getfield 36, 3) := by decide +kernel
theorem d_X5_goOn_15 : decode mX5_goOn.2.2.1 15 = .ok (.iconst 1, 1) := by decide +kernel
theorem d_X5_goOn_16 : decode mX5_goOn.2.2.1 16 = .ok (.iadd, 1) := by decide +kernel
theorem d_X5_goOn_17 : decode mX5_goOn.2.2.1 17 = .ok (.putfield 36, 3) := by decide +kernel
theorem ok_X5_goOn : e_m mX5_goOn 0 := ⟨tblG_in (inT4 (List.mem_of_getElem? (i := 33) rfl)) rfl, plainFor_of_name (by decide), rfl, ini_5, by decide +kernel, by decide⟩
theorem d_X5_beginNamed_21 : decode mX5_beginNamed.2.2.1 21 = .ok (.pop, 1) := by decide +kernel
theorem d_X5_beginNamed_22 : decode mX5_beginNamed.2.2.1 22 = .ok (.aload_n 0, 1) := by decide +kernel
theorem d_X5_beginNamed_23 : decode mX5_beginNamed.2.2.1 23 = .ok (.getfield 18, 3) := by decide +kernel
theorem d_X5_beginNamed_26 : decode mX5_beginNamed.2.2.1 26 = .ok (.getfield 50, 3) := by decide +kernel
theorem d_X5_beginNamed_29 : decode mX5_beginNamed.2.2.1 29 = .ok (.aload_n 0, 1) := by decide +kernel
theorem d_X5_beginNamed_30 : decode mX5_beginNamed.2.2.1 30 = .ok (.getfield 36, 3) := by decide +kernel
theorem d_X5_beginNamed_33 : decode mX5_beginNamed.2.2.1 33 = .ok (.iaload, 1) := by decide +kernel
theorem d_X5_beginNamed_34 : decode mX5_beginNamed.2.2.1 34 = .ok (.iconst 3, 1) := by decide +kernel
theorem d_X5_beginNamed_35 : decode mX5_beginNamed.2.2.1 35 = .ok (.if_icmp .eq 9, 3) := by decide +kernel
theorem d_X5_beginNamed_44 : decode mX5_beginNamed.2.2.1 44 = .ok (.aload_n 0, 1) := by decide +kernel
theorem d_X5_beginNamed_45 : decode mX5_beginNamed.2.2.1 45 = .ok (.getfield 22, 3) := by decide +kernel
theorem d_X5_beginNamed_48 : decode mX5_beginNamed.2.2.1 48 = .ok (.aload_n 0, 1) := by decide +kernel
theorem d_X5_beginNamed_49 : decode mX5_beginNamed.2.2.1 49 = .ok (.getfield 18, 3) := by decide +kernel
theorem d_X5_beginNamed_52 : decode mX5_beginNamed.2.2.1 52 = .ok (.getfield 68, 3) := by decide +kernel
theorem d_X5_beginNamed_55 : decode mX5_beginNamed.2.2.1 55 = .ok (.aload_n 0, 1) := by decide +kernel
theorem d_X5_beginNamed_56 : decode mX5_beginNamed.2.2.1 56 = .ok (.getfield 36, 3) := by decide +kernel
theorem d_X5_beginNamed_59 : decode mX5_beginNamed.2.2.1 59 = .ok (.iaload, 1) := by decide +kernel
theorem d_X5_beginNamed_60 : decode mX5_beginNamed.2.2.1 60 = .ok (.invokevirtual 91, 3) := by decide +kernel
def mX3_find : MD := (3, yX3_find, cX3_find, 3, some .int)
theorem sel_X3_find : Cond.instanceMethod mX3_find.2.1 ∈ tblG ∧ Cond.selects mX3_find.2.1.cls mX3_find.2.1 mX3_find.2.1 ∈ tblG := ⟨tblG_in (inT4 (List.mem_of_getElem? (i := 69) rfl)) rfl, tblG_in (inT4 (List.mem_of_getElem? (i := 70) rfl)) rfl⟩
theorem s_5_91 : e_siteV 5 91 mX3_find 3 := ⟨tblG_in (inT4 (List.mem_of_getElem? (i := 68) rfl)) rfl, sel_X3_find.1, sel_X3_find.2, rfl⟩
theorem d_X3_find_0 : decode mX3_find.2.2.1 0 = .ok (.iconst 0, 1) := by decide +kernel
theorem d_X3_find_1 : decode mX3_find.2.2.1 1 = .ok (.istore_n 2, 1) := by decide +kernel
theorem d_X3_find_2 : decode mX3_find.2.2.1 2 = .ok (.iload_n 2, 1) := by decide +kernel
theorem d_X3_find_3 : decode mX3_find.2.2.1 3 = .ok (.bipush 15, 2) := by decide +kernel
theorem d_X3_find_5 : decode mX3_find.2.2.1 5 = .ok (.if_icmp .ge 21, 3) := by decide +kernel
theorem d_X3_find_8 : decode mX3_find.2.2.1 8 = .ok (.aload_n 0, 1) := by decide +kernel
theorem d_X3_find_9 : decode mX3_find.2.2.1 9 = .ok (.getfield 30, 3) := by decide +kernel
theorem d_X3_find_12 : decode mX3_find.2.2.1 12 = .ok (.iload_n 2, 1) := by decide +kernel
theorem d_X3_find_13 : decode mX3_find.2.2.1 13 = .ok (.iaload, 1) := by decide +kernel
theorem d_X3_find_14 : decode mX3_find.2.2.1 14 = .ok (.iload_n 1, 1) := by decide +kernel
theorem d_X3_find_15 : decode mX3_find.2.2.1 15 = .ok (.if_icmp .ne 5, 3) := by decide +kernel
theorem d_X3_find_20 : decode mX3_find.2.2.1 20 = .ok (.iinc 2 1, 3) := by decide +kernel
theorem d_X3_find_23 : decode mX3_find.2.2.1 23 = .ok (.goto (-21), 3) := by decide +kernel
theorem d_X3_find_18 : decode mX3_find.2.2.1 18 = .ok (.iload_n 2, 1) := by decide +kernel
theorem d_X3_find_19 : decode mX3_find.2.2.1 19 = .ok (.ireturn, 1) := by decide +kernel
theorem d_X3_find_26 : decode mX3_find.2.2.1 26 = .ok (.iconst (-1), 1) := by decide +kernel
theorem d_X3_find_27 : decode mX3_find.2.2.1 27 = .ok (.ireturn, 1) := by decide +kernel
theorem ok_X3_find : e_m mX3_find 1 := ⟨tblG_in (inT4 (List.mem_of_getElem? (i := 71) rfl)) rfl, plainFor_of_name (by decide), rfl, ini_3, by decide +kernel, by decide⟩
theorem d_X5_beginNamed_63 : decode mX5_beginNamed.2.2.1 63 = .ok (.ifCond .lt 9, 3) := by decide +kernel
theorem d_X5_beginNamed_72 : decode mX5_beginNamed.2.2.1 72 = .ok (.aload_n 0, 1) := by decide +kernel
theorem d_X5_beginNamed_73 : decode mX5_beginNamed.2.2.1 73 = .ok (.getfield 22, 3) := by decide +kernel
theorem d_X5_beginNamed_76 : decode mX5_beginNamed.2.2.1 76 = .ok (.iload_n 1, 1) := by decide +kernel
theorem d_X5_beginNamed_77 : decode mX5_beginNamed.2.2.1 77 = .ok (.aload_n 0, 1) := by decide +kernel
theorem d_X5_beginNamed_78 : decode mX5_beginNamed.2.2.1 78 = .ok (.getfield 18, 3) := by decide +kernel
theorem d_X5_beginNamed_81 : decode mX5_beginNamed.2.2.1 81 = .ok (.getfield 68, 3) := by decide +kernel
theorem d_X5_beginNamed_84 : decode mX5_beginNamed.2.2.1 84 = .ok (.aload_n 0, 1) := by decide +kernel
theorem d_X5_beginNamed_85 : decode mX5_beginNamed.2.2.1 85 = .ok (.getfield 36, 3) := by decide +kernel
theorem d_X5_beginNamed_88 : decode mX5_beginNamed.2.2.1 88 = .ok (.iaload, 1) := by decide +kernel
theorem d_X5_beginNamed_89 : decode mX5_beginNamed.2.2.1 89 = .ok (.invokevirtual 129, 3) := by decide +kernel
def mX3_name : MD := (3, yX3_name, cX3_name, 3, none)
theorem sel_X3_name : Cond.instanceMethod mX3_name.2.1 ∈ tblG ∧ Cond.selects mX3_name.2.1.cls mX3_name.2.1 mX3_name.2.1 ∈ tblG := ⟨tblG_in (inT4 (List.mem_of_getElem? (i := 73) rfl)) rfl, tblG_in (inT4 (List.mem_of_getElem? (i := 74) rfl)) rfl⟩
theorem s_5_129 : e_siteV 5 129 mX3_name 3 := ⟨tblG_in (inT4 (List.mem_of_getElem? (i := 72) rfl)) rfl, sel_X3_name.1, sel_X3_name.2, rfl⟩
theorem d_X3_name_0 : decode mX3_name.2.2.1 0 = .ok (.aload_n 0, 1) := by decide +kernel
theorem d_X3_name_1 : decode mX3_name.2.2.1 1 = .ok (.getfield 11, 3) := by decide +kernel
theorem d_X3_name_4 : decode mX3_name.2.2.1 4 = .ok (.iload_n 1, 1) := by decide +kernel
theorem d_X3_name_5 : decode mX3_name.2.2.1 5 = .ok (.iaload, 1) := by decide +kernel
theorem d_X3_name_6 : decode mX3_name.2.2.1 6 = .ok (.getstatic 62, 3) := by decide +kernel
theorem d_X3_name_9 : decode mX3_name.2.2.1 9 = .ok (.iload_n 1, 1) := by decide +kernel
theorem d_X3_name_10 : decode mX3_name.2.2.1 10 = .ok (.iaload, 1) := by decide +kernel
theorem d_X3_name_11 : decode mX3_name.2.2.1 11 = .ok (.if_icmp .ge 31, 3) := by decide +kernel
theorem d_X3_name_42 : decode mX3_name.2.2.1 42 = .ok (.return_, 1) := by decide +kernel
theorem d_X3_name_14 : decode mX3_name.2.2.1 14 = .ok (.aload_n 0, 1) := by decide +kernel
theorem d_X3_name_15 : decode mX3_name.2.2.1 15 = .ok (.getfield 30, 3) := by decide +kernel
theorem d_X3_name_18 : decode mX3_name.2.2.1 18 = .ok (.getstatic 65, 3) := by decide +kernel
theorem d_X3_name_21 : decode mX3_name.2.2.1 21 = .ok (.iload_n 1, 1) := by decide +kernel
theorem d_X3_name_22 : decode mX3_name.2.2.1 22 = .ok (.iaload, 1) := by decide +kernel
theorem d_X3_name_23 : decode mX3_name.2.2.1 23 = .ok (.aload_n 0, 1) := by decide +kernel
theorem d_X3_name_24 : decode mX3_name.2.2.1 24 = .ok (.getfield 11, 3) := by decide +kernel
theorem d_X3_name_27 : decode mX3_name.2.2.1 27 = .ok (.iload_n 1, 1) := by decide +kernel
theorem d_X3_name_28 : decode mX3_name.2.2.1 28 = .ok (.iaload, 1) := by decide +kernel
theorem d_X3_name_29 : decode mX3_name.2.2.1 29 = .ok (.iadd, 1) := by decide +kernel
theorem d_X3_name_30 : decode mX3_name.2.2.1 30 = .ok (.iload_n 2, 1) := by decide +kernel
theorem d_X3_name_31 : decode mX3_name.2.2.1 31 = .ok (.iastore, 1) := by decide +kernel
theorem d_X3_name_32 : decode mX3_name.2.2.1 32 = .ok (.aload_n 0, 1) := by decide +kernel
theorem d_X3_name_33 : decode mX3_name.2.2.1 33 = .ok (.getfield 11, 3) := by decide +kernel
theorem d_X3_name_36 : decode mX3_name.2.2.1 36 = .ok (.iload_n 1, 1) := by decide +kernel
theorem d_X3_name_37 : decode mX3_name.2.2.1 37 = .ok (.dup2, 1) := by decide +kernel
theorem d_X3_name_38 : decode mX3_name.2.2.1 38 = .ok (.iaload, 1) := by decide +kernel
theorem d_X3_name_39 : decode mX3_name.2.2.1 39 = .ok (.iconst 1, 1) := by decide +kernel
theorem d_X3_name_40 : decode mX3_name.2.2.1 40 = .ok (.iadd, 1) := by decide +kernel
theorem d_X3_name_41 : decode mX3_name.2.2.1 41 = .ok (.iastore, 1) := by decide +kernel
theorem ok_X3_name : e_m mX3_name 2 := ⟨tblG_in (inT4 (List.mem_of_getElem? (i := 75) rfl)) rfl, plainFor_of_name (by decide), rfl, ini_3, by decide +kernel, by decide⟩
theorem d_X5_beginNamed_92 : decode mX5_beginNamed.2.2.1 92 = .ok (.aload_n 0, 1) := by decide +kernel
theorem d_X5_beginNamed_93 : decode mX5_beginNamed.2.2.1 93 = .ok (.invokevirtual 74, 3) := by decide +kernel
theorem d_X5_beginNamed_96 : decode mX5_beginNamed.2.2.1 96 = .ok (.ireturn, 1) := by decide +kernel
theorem d_X5_beginNamed_66 : decode mX5_beginNamed.2.2.1 66 = .ok (.aload_n 0, 1) := by decide +kernel
theorem d_X5_beginNamed_67 : decode mX5_beginNamed.2.2.1 67 = .ok (.iconst 2, 1) := by decide +kernel
theorem d_X5_beginNamed_68 : decode mX5_beginNamed.2.2.1 68 = .ok (.invokevirtual 56, 3) := by decide +kernel
def mX5_refuse : MD := (5, yX5_refuse, cX5_refuse, 2, some .boolean)
theorem sel_X5_refuse : Cond.instanceMethod mX5_refuse.2.1 ∈ tblG ∧ Cond.selects mX5_refuse.2.1.cls mX5_refuse.2.1 mX5_refuse.2.1 ∈ tblG := ⟨tblG_in (inT4 (List.mem_of_getElem? (i := 40) rfl)) rfl, tblG_in (inP1 (q := (mX5_refuse.2.1, 7)) (List.mem_of_getElem? (i := 13) rfl)) rfl⟩
theorem s_5_56 : e_siteV 5 56 mX5_refuse 5 := ⟨tblG_in (inT4 (List.mem_of_getElem? (i := 38) rfl)) rfl, sel_X5_refuse.1, sel_X5_refuse.2, rfl⟩
theorem d_X5_refuse_0 : decode mX5_refuse.2.2.1 0 = .ok (.aload_n 0, 1) := by decide +kernel
theorem d_X5_refuse_1 : decode mX5_refuse.2.2.1 1 = .ok (.iload_n 1, 1) := by decide +kernel
theorem d_X5_refuse_2 : decode mX5_refuse.2.2.1 2 = .ok (.putfield 9, 3) := by decide +kernel
theorem d_X5_refuse_5 : decode mX5_refuse.2.2.1 5 = .ok (.aload_n 0, 1) := by decide +kernel
theorem d_X5_refuse_6 : decode mX5_refuse.2.2.1 6 = .ok (.aload_n 0, 1) := by decide +kernel
theorem d_X5_refuse_7 : decode mX5_refuse.2.2.1 7 = .ok (.getfield 18, 3) := by decide +kernel
theorem d_X5_refuse_10 : decode mX5_refuse.2.2.1 10 = .ok (.getfield 65, 3) := by decide +kernel
theorem f_5_65 : e_fld 5 65 7 1 6 2 true := ⟨RX7, TX7, 1, rfl, rfl, by decide, rfl, rfl, rfl, iX7, tblG_in (inT1 (List.mem_of_getElem? (i := 41) rfl)) rfl, tyX7_ok, nmX7⟩
theorem d_X5_refuse_13 : decode mX5_refuse.2.2.1 13 = .ok (.aload_n 0, 1) := by decide +kernel
theorem d_X5_refuse_14 : decode mX5_refuse.2.2.1 14 = .ok (.getfield 36, 3) := by decide +kernel
theorem d_X5_refuse_17 : decode mX5_refuse.2.2.1 17 = .ok (.iaload, 1) := by decide +kernel
theorem d_X5_refuse_18 : decode mX5_refuse.2.2.1 18 = .ok (.putfield 15, 3) := by decide +kernel
theorem d_X5_refuse_21 : decode mX5_refuse.2.2.1 21 = .ok (.iconst 0, 1) := by decide +kernel
theorem d_X5_refuse_22 : decode mX5_refuse.2.2.1 22 = .ok (.ireturn, 1) := by decide +kernel
theorem ok_X5_refuse : e_m mX5_refuse 1 := ⟨tblG_in (inT4 (List.mem_of_getElem? (i := 41) rfl)) rfl, plainFor_of_name (by decide), rfl, ini_5, by decide +kernel, by decide⟩
theorem d_X5_beginNamed_71 : decode mX5_beginNamed.2.2.1 71 = .ok (.ireturn, 1) := by decide +kernel
theorem d_X5_beginNamed_38 : decode mX5_beginNamed.2.2.1 38 = .ok (.aload_n 0, 1) := by decide +kernel
theorem d_X5_beginNamed_39 : decode mX5_beginNamed.2.2.1 39 = .ok (.iconst 1, 1) := by decide +kernel
theorem d_X5_beginNamed_40 : decode mX5_beginNamed.2.2.1 40 = .ok (.invokevirtual 56, 3) := by decide +kernel
theorem d_X5_beginNamed_43 : decode mX5_beginNamed.2.2.1 43 = .ok (.ireturn, 1) := by decide +kernel
theorem d_X5_beginNamed_11 : decode mX5_beginNamed.2.2.1 11 = .ok (.aload_n 0, 1) := by decide +kernel
theorem d_X5_beginNamed_12 : decode mX5_beginNamed.2.2.1 12 = .ok (.iconst 5, 1) := by decide +kernel
theorem d_X5_beginNamed_13 : decode mX5_beginNamed.2.2.1 13 = .ok (.invokevirtual 56, 3) := by decide +kernel
theorem d_X5_beginNamed_16 : decode mX5_beginNamed.2.2.1 16 = .ok (.ireturn, 1) := by decide +kernel
theorem ok_X5_beginNamed : e_m mX5_beginNamed 1 := ⟨tblG_in (inT4 (List.mem_of_getElem? (i := 61) rfl)) rfl, plainFor_of_name (by decide), rfl, ini_5, by decide +kernel, by decide⟩
theorem d_X5_declaration_57 : decode mX5_declaration.2.2.1 57 = .ok (.ifCond .eq 16, 3) := by decide +kernel
theorem d_X5_declaration_73 : decode mX5_declaration.2.2.1 73 = .ok (.iconst 0, 1) := by decide +kernel
theorem d_X5_declaration_74 : decode mX5_declaration.2.2.1 74 = .ok (.ireturn, 1) := by decide +kernel
theorem d_X5_declaration_60 : decode mX5_declaration.2.2.1 60 = .ok (.aload_n 0, 1) := by decide +kernel
theorem d_X5_declaration_61 : decode mX5_declaration.2.2.1 61 = .ok (.bipush 59, 2) := by decide +kernel
theorem d_X5_declaration_63 : decode mX5_declaration.2.2.1 63 = .ok (.invokevirtual 81, 3) := by decide +kernel
def mX5_takeSign : MD := (5, yX5_takeSign, cX5_takeSign, 2, some .boolean)
theorem sel_X5_takeSign : Cond.instanceMethod mX5_takeSign.2.1 ∈ tblG ∧ Cond.selects mX5_takeSign.2.1.cls mX5_takeSign.2.1 mX5_takeSign.2.1 ∈ tblG := ⟨tblG_in (inT4 (List.mem_of_getElem? (i := 44) rfl)) rfl, tblG_in (inP1 (q := (mX5_takeSign.2.1, 7)) (List.mem_of_getElem? (i := 14) rfl)) rfl⟩
theorem s_5_81 : e_siteV 5 81 mX5_takeSign 5 := ⟨tblG_in (inT4 (List.mem_of_getElem? (i := 42) rfl)) rfl, sel_X5_takeSign.1, sel_X5_takeSign.2, rfl⟩
theorem d_X5_takeSign_0 : decode mX5_takeSign.2.2.1 0 = .ok (.aload_n 0, 1) := by decide +kernel
theorem d_X5_takeSign_1 : decode mX5_takeSign.2.2.1 1 = .ok (.iload_n 1, 1) := by decide +kernel
theorem d_X5_takeSign_2 : decode mX5_takeSign.2.2.1 2 = .ok (.invokevirtual 77, 3) := by decide +kernel
def mX5_isSign : MD := (5, yX5_isSign, cX5_isSign, 2, some .boolean)
theorem sel_X5_isSign : Cond.instanceMethod mX5_isSign.2.1 ∈ tblG ∧ Cond.selects mX5_isSign.2.1.cls mX5_isSign.2.1 mX5_isSign.2.1 ∈ tblG := ⟨tblG_in (inT4 (List.mem_of_getElem? (i := 48) rfl)) rfl, tblG_in (inP1 (q := (mX5_isSign.2.1, 7)) (List.mem_of_getElem? (i := 15) rfl)) rfl⟩
theorem s_5_77 : e_siteV 5 77 mX5_isSign 5 := ⟨tblG_in (inT4 (List.mem_of_getElem? (i := 46) rfl)) rfl, sel_X5_isSign.1, sel_X5_isSign.2, rfl⟩
theorem d_X5_isSign_0 : decode mX5_isSign.2.2.1 0 = .ok (.aload_n 0, 1) := by decide +kernel
theorem d_X5_isSign_1 : decode mX5_isSign.2.2.1 1 = .ok (.getfield 18, 3) := by decide +kernel
theorem d_X5_isSign_4 : decode mX5_isSign.2.2.1 4 = .ok (.getfield 50, 3) := by decide +kernel
theorem d_X5_isSign_7 : decode mX5_isSign.2.2.1 7 = .ok (.aload_n 0, 1) := by decide +kernel
theorem d_X5_isSign_8 : decode mX5_isSign.2.2.1 8 = .ok (.getfield 36, 3) := by decide +kernel
theorem d_X5_isSign_11 : decode mX5_isSign.2.2.1 11 = .ok (.iaload, 1) := by decide +kernel
theorem d_X5_isSign_12 : decode mX5_isSign.2.2.1 12 = .ok (.iconst 5, 1) := by decide +kernel
theorem d_X5_isSign_13 : decode mX5_isSign.2.2.1 13 = .ok (.if_icmp .ne 23, 3) := by decide +kernel
theorem d_X5_isSign_36 : decode mX5_isSign.2.2.1 36 = .ok (.iconst 0, 1) := by decide +kernel
theorem d_X5_isSign_37 : decode mX5_isSign.2.2.1 37 = .ok (.ireturn, 1) := by decide +kernel
theorem d_X5_isSign_16 : decode mX5_isSign.2.2.1 16 = .ok (.aload_n 0, 1) := by decide +kernel
theorem d_X5_isSign_17 : decode mX5_isSign.2.2.1 17 = .ok (.getfield 18, 3) := by decide +kernel
theorem d_X5_isSign_20 : decode mX5_isSign.2.2.1 20 = .ok (.getfield 68, 3) := by decide +kernel
theorem d_X5_isSign_23 : decode mX5_isSign.2.2.1 23 = .ok (.aload_n 0, 1) := by decide +kernel
theorem d_X5_isSign_24 : decode mX5_isSign.2.2.1 24 = .ok (.getfield 36, 3) := by decide +kernel
theorem d_X5_isSign_27 : decode mX5_isSign.2.2.1 27 = .ok (.iaload, 1) := by decide +kernel
theorem d_X5_isSign_28 : decode mX5_isSign.2.2.1 28 = .ok (.iload_n 1, 1) := by decide +kernel
theorem d_X5_isSign_29 : decode mX5_isSign.2.2.1 29 = .ok (.if_icmp .ne 7, 3) := by decide +kernel
theorem d_X5_isSign_32 : decode mX5_isSign.2.2.1 32 = .ok (.iconst 1, 1) := by decide +kernel
theorem d_X5_isSign_33 : decode mX5_isSign.2.2.1 33 = .ok (.goto 4, 3) := by decide +kernel
theorem ok_X5_isSign : e_m mX5_isSign 1 := ⟨tblG_in (inT4 (List.mem_of_getElem? (i := 49) rfl)) rfl, plainFor_of_name (by decide), rfl, ini_5, by decide +kernel, by decide⟩
theorem d_X5_takeSign_5 : decode mX5_takeSign.2.2.1 5 = .ok (.ifCond .eq 10, 3) := by decide +kernel
