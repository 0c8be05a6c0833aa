theorem d_X7_takeWord_68 : decode mX7_takeWord.2.2.1 68 = .ok (.iconst (-1), 1) := by decide +kernel
theorem d_X7_takeWord_69 : decode mX7_takeWord.2.2.1 69 = .ok (.invokevirtual 40, 3) := by decide +kernel
theorem d_X7_takeWord_72 : decode mX7_takeWord.2.2.1 72 = .ok (.ireturn, 1) := by decide +kernel
theorem ok_X7_takeWord : e_m mX7_takeWord 1 := ⟨tblG_in (inT3 (List.mem_of_getElem? (i := 132) rfl)) rfl, plainFor_of_name (by decide), rfl, ini_7, by decide +kernel, by decide⟩
theorem d_X7_takeOne_63 : decode mX7_takeOne.2.2.1 63 = .ok (.goto 8, 3) := by decide +kernel
theorem ok_X7_takeOne : e_m mX7_takeOne 2 := ⟨tblG_in (inT3 (List.mem_of_getElem? (i := 118) rfl)) rfl, plainFor_of_name (by decide), rfl, ini_7, by decide +kernel, by decide⟩
theorem d_X7_takeApart_68 : decode mX7_takeApart.2.2.1 68 = .ok (.istore_n 3, 1) := by decide +kernel
theorem d_X7_takeApart_69 : decode mX7_takeApart.2.2.1 69 = .ok (.aload_n 0, 1) := by decide +kernel
theorem d_X7_takeApart_70 : decode mX7_takeApart.2.2.1 70 = .ok (.getfield 29, 3) := by decide +kernel
theorem d_X7_takeApart_73 : decode mX7_takeApart.2.2.1 73 = .ok (.ifCond .le 22, 3) := by decide +kernel
theorem d_X7_takeApart_76 : decode mX7_takeApart.2.2.1 76 = .ok (.aload_n 0, 1) := by decide +kernel
theorem d_X7_takeApart_77 : decode mX7_takeApart.2.2.1 77 = .ok (.getfield 9, 3) := by decide +kernel
theorem d_X7_takeApart_80 : decode mX7_takeApart.2.2.1 80 = .ok (.aload_n 0, 1) := by decide +kernel
theorem d_X7_takeApart_81 : decode mX7_takeApart.2.2.1 81 = .ok (.getfield 29, 3) := by decide +kernel
theorem d_X7_takeApart_84 : decode mX7_takeApart.2.2.1 84 = .ok (.iconst 1, 1) := by decide +kernel
theorem d_X7_takeApart_85 : decode mX7_takeApart.2.2.1 85 = .ok (.isub, 1) := by decide +kernel
theorem d_X7_takeApart_86 : decode mX7_takeApart.2.2.1 86 = .ok (.iaload, 1) := by decide +kernel
theorem d_X7_takeApart_87 : decode mX7_takeApart.2.2.1 87 = .ok (.iconst 5, 1) := by decide +kernel
theorem d_X7_takeApart_88 : decode mX7_takeApart.2.2.1 88 = .ok (.if_icmp .eq 7, 3) := by decide +kernel
theorem d_X7_takeApart_91 : decode mX7_takeApart.2.2.1 91 = .ok (.iconst 1, 1) := by decide +kernel
theorem d_X7_takeApart_92 : decode mX7_takeApart.2.2.1 92 = .ok (.goto 4, 3) := by decide +kernel
theorem d_X7_takeApart_95 : decode mX7_takeApart.2.2.1 95 = .ok (.iconst 0, 1) := by decide +kernel
theorem d_X7_takeApart_96 : decode mX7_takeApart.2.2.1 96 = .ok (.istore 4, 2) := by decide +kernel
theorem d_X7_takeApart_98 : decode mX7_takeApart.2.2.1 98 = .ok (.iinc 5 1, 3) := by decide +kernel
theorem d_X7_takeApart_101 : decode mX7_takeApart.2.2.1 101 = .ok (.goto (-78), 3) := by decide +kernel
theorem d_X7_takeApart_104 : decode mX7_takeApart.2.2.1 104 = .ok (.return_, 1) := by decide +kernel
theorem d_X7_takeApart_47 : decode mX7_takeApart.2.2.1 47 = .ok (.iload 6, 2) := by decide +kernel
theorem d_X7_takeApart_49 : decode mX7_takeApart.2.2.1 49 = .ok (.iload_n 3, 1) := by decide +kernel
theorem d_X7_takeApart_50 : decode mX7_takeApart.2.2.1 50 = .ok (.if_icmp .ne 7, 3) := by decide +kernel
theorem d_X7_takeApart_53 : decode mX7_takeApart.2.2.1 53 = .ok (.iconst 1, 1) := by decide +kernel
theorem d_X7_takeApart_54 : decode mX7_takeApart.2.2.1 54 = .ok (.goto 4, 3) := by decide +kernel
theorem d_X7_takeOne_42 : decode mX7_takeOne.2.2.1 42 = .ok (.aload_n 0, 1) := by decide +kernel
theorem d_X7_takeOne_43 : decode mX7_takeOne.2.2.1 43 = .ok (.iconst 1, 1) := by decide +kernel
theorem d_X7_takeOne_44 : decode mX7_takeOne.2.2.1 44 = .ok (.iload_n 1, 1) := by decide +kernel
theorem d_X7_takeOne_45 : decode mX7_takeOne.2.2.1 45 = .ok (.iconst 0, 1) := by decide +kernel
theorem d_X7_takeOne_46 : decode mX7_takeOne.2.2.1 46 = .ok (.iconst (-1), 1) := by decide +kernel
theorem d_X7_takeOne_47 : decode mX7_takeOne.2.2.1 47 = .ok (.invokevirtual 40, 3) := by decide +kernel
theorem d_X7_takeOne_50 : decode mX7_takeOne.2.2.1 50 = .ok (.ireturn, 1) := by decide +kernel
def mX5_beginNamed : MD := (5, yX5_beginNamed, cX5_beginNamed, 2, some .boolean)
theorem sel_X5_beginNamed : Cond.instanceMethod mX5_beginNamed.2.1 ∈ tblG ∧ Cond.selects mX5_beginNamed.2.1.cls mX5_beginNamed.2.1 mX5_beginNamed.2.1 ∈ tblG := ⟨tblG_in (inT4 (List.mem_of_getElem? (i := 60) rfl)) rfl, tblG_in (inP2 (q := (mX5_beginNamed.2.1, 7)) (List.mem_of_getElem? (i := 2) rfl)) rfl⟩
theorem s_5_112 : e_siteV 5 112 mX5_beginNamed 5 := ⟨tblG_in (inT4 (List.mem_of_getElem? (i := 58) rfl)) rfl, sel_X5_beginNamed.1, sel_X5_beginNamed.2, rfl⟩
theorem d_X5_beginNamed_0 : decode mX5_beginNamed.2.2.1 0 = .ok (.aload_n 0, 1) := by decide +kernel
theorem d_X5_beginNamed_1 : decode mX5_beginNamed.2.2.1 1 = .ok (.getfield 22, 3) := by decide +kernel
theorem d_X5_beginNamed_4 : decode mX5_beginNamed.2.2.1 4 = .ok (.iload_n 1, 1) := by decide +kernel
theorem d_X5_beginNamed_5 : decode mX5_beginNamed.2.2.1 5 = .ok (.invokevirtual 126, 3) := by decide +kernel
def mX3_isFull : MD := (3, yX3_isFull, cX3_isFull, 2, some .boolean)
theorem sel_X3_isFull : Cond.instanceMethod mX3_isFull.2.1 ∈ tblG ∧ Cond.selects mX3_isFull.2.1.cls mX3_isFull.2.1 mX3_isFull.2.1 ∈ tblG := ⟨tblG_in (inT4 (List.mem_of_getElem? (i := 63) rfl)) rfl, tblG_in (inT4 (List.mem_of_getElem? (i := 64) rfl)) rfl⟩
theorem s_5_126 : e_siteV 5 126 mX3_isFull 3 := ⟨tblG_in (inT4 (List.mem_of_getElem? (i := 62) rfl)) rfl, sel_X3_isFull.1, sel_X3_isFull.2, rfl⟩
theorem d_X3_isFull_0 : decode mX3_isFull.2.2.1 0 = .ok (.aload_n 0, 1) := by decide +kernel
theorem d_X3_isFull_1 : decode mX3_isFull.2.2.1 1 = .ok (.getfield 11, 3) := by decide +kernel
theorem d_X3_isFull_4 : decode mX3_isFull.2.2.1 4 = .ok (.iload_n 1, 1) := by decide +kernel
theorem d_X3_isFull_5 : decode mX3_isFull.2.2.1 5 = .ok (.iaload, 1) := by decide +kernel
theorem d_X3_isFull_6 : decode mX3_isFull.2.2.1 6 = .ok (.getstatic 62, 3) := by decide +kernel
theorem sl_3_62 : Cond.fieldLink (e_cn 3) 62 "SipMeter$Machine" "MOST" "[I" ∈ tblG := tblG_in (inT4 (List.mem_of_getElem? (i := 66) rfl)) rfl
theorem d_X3_isFull_9 : decode mX3_isFull.2.2.1 9 = .ok (.iload_n 1, 1) := by decide +kernel
theorem d_X3_isFull_10 : decode mX3_isFull.2.2.1 10 = .ok (.iaload, 1) := by decide +kernel
theorem d_X3_isFull_11 : decode mX3_isFull.2.2.1 11 = .ok (.if_icmp .lt 7, 3) := by decide +kernel
theorem d_X3_isFull_18 : decode mX3_isFull.2.2.1 18 = .ok (.iconst 0, 1) := by decide +kernel
theorem d_X3_isFull_19 : decode mX3_isFull.2.2.1 19 = .ok (.ireturn, 1) := by decide +kernel
theorem d_X3_isFull_14 : decode mX3_isFull.2.2.1 14 = .ok (.iconst 1, 1) := by decide +kernel
theorem d_X3_isFull_15 : decode mX3_isFull.2.2.1 15 = .ok (.goto 4, 3) := by decide +kernel
theorem ok_X3_isFull : e_m mX3_isFull 1 := ⟨tblG_in (inT4 (List.mem_of_getElem? (i := 65) rfl)) rfl, plainFor_of_name (by decide), rfl, ini_3, by decide +kernel, by decide⟩
theorem d_X5_beginNamed_8 : decode mX5_beginNamed.2.2.1 8 = .ok (.ifCond .eq 9, 3) := by decide +kernel
theorem d_X5_beginNamed_17 : decode mX5_beginNamed.2.2.1 17 = .ok (.aload_n 0, 1) := by decide +kernel
theorem d_X5_beginNamed_18 : decode mX5_beginNamed.2.2.1 18 = .ok (.invokevirtual 74, 3) := by decide +kernel
theorem d_X5_beginNamed_21 : decode mX5_beginNamed.2.2.1 21 = .ok (.pop, 1) := by decide +kernel
theorem d_X5_beginNamed_22 : decode mX5_beginNamed.2.2.1 22 = .ok (.aload_n 0, 1) := by decide +kernel
theorem d_X5_beginNamed_23 : decode mX5_beginNamed.2.2.1 23 = .ok (.getfield 18, 3) := by decide +kernel
theorem d_X5_beginNamed_26 : decode mX5_beginNamed.2.2.1 26 = .ok (.getfield 50, 3) := by decide +kernel
theorem d_X5_beginNamed_29 : decode mX5_beginNamed.2.2.1 29 = .ok (.aload_n 0, 1) := by decide +kernel
theorem d_X5_beginNamed_30 : decode mX5_beginNamed.2.2.1 30 = .ok (.getfield 36, 3) := by decide +kernel
theorem d_X5_beginNamed_33 : decode mX5_beginNamed.2.2.1 33 = .ok (.iaload, 1) := by decide +kernel
theorem d_X5_beginNamed_34 : decode mX5_beginNamed.2.2.1 34 = .ok (.iconst 3, 1) := by decide +kernel
theorem d_X5_beginNamed_35 : decode mX5_beginNamed.2.2.1 35 = .ok (.if_icmp .eq 9, 3) := by decide +kernel
theorem d_X5_beginNamed_44 : decode mX5_beginNamed.2.2.1 44 = .ok (.aload_n 0, 1) := by decide +kernel
theorem d_X5_beginNamed_45 : decode mX5_beginNamed.2.2.1 45 = .ok (.getfield 22, 3) := by decide +kernel
theorem d_X5_beginNamed_48 : decode mX5_beginNamed.2.2.1 48 = .ok (.aload_n 0, 1) := by decide +kernel
theorem d_X5_beginNamed_49 : decode mX5_beginNamed.2.2.1 49 = .ok (.getfield 18, 3) := by decide +kernel
theorem d_X5_beginNamed_52 : decode mX5_beginNamed.2.2.1 52 = .ok (.getfield 68, 3) := by decide +kernel
theorem d_X5_beginNamed_55 : decode mX5_beginNamed.2.2.1 55 = .ok (.aload_n 0, 1) := by decide +kernel
theorem d_X5_beginNamed_56 : decode mX5_beginNamed.2.2.1 56 = .ok (.getfield 36, 3) := by decide +kernel
theorem d_X5_beginNamed_59 : decode mX5_beginNamed.2.2.1 59 = .ok (.iaload, 1) := by decide +kernel
theorem d_X5_beginNamed_60 : decode mX5_beginNamed.2.2.1 60 = .ok (.invokevirtual 91, 3) := by decide +kernel
theorem sel_X3_find : Cond.instanceMethod mX3_find.2.1 ∈ tblG ∧ Cond.selects mX3_find.2.1.cls mX3_find.2.1 mX3_find.2.1 ∈ tblG := ⟨tblG_in (inT4 (List.mem_of_getElem? (i := 69) rfl)) rfl, tblG_in (inT4 (List.mem_of_getElem? (i := 70) rfl)) rfl⟩
theorem s_5_91 : e_siteV 5 91 mX3_find 3 := ⟨tblG_in (inT4 (List.mem_of_getElem? (i := 68) rfl)) rfl, sel_X3_find.1, sel_X3_find.2, rfl⟩
theorem ok_X3_find : e_m mX3_find 1 := ⟨tblG_in (inT4 (List.mem_of_getElem? (i := 71) rfl)) rfl, plainFor_of_name (by decide), rfl, ini_3, by decide +kernel, by decide⟩
theorem d_X5_beginNamed_63 : decode mX5_beginNamed.2.2.1 63 = .ok (.ifCond .lt 9, 3) := by decide +kernel
theorem d_X5_beginNamed_72 : decode mX5_beginNamed.2.2.1 72 = .ok (.aload_n 0, 1) := by decide +kernel
theorem d_X5_beginNamed_73 : decode mX5_beginNamed.2.2.1 73 = .ok (.getfield 22, 3) := by decide +kernel
theorem d_X5_beginNamed_76 : decode mX5_beginNamed.2.2.1 76 = .ok (.iload_n 1, 1) := by decide +kernel
theorem d_X5_beginNamed_77 : decode mX5_beginNamed.2.2.1 77 = .ok (.aload_n 0, 1) := by decide +kernel
theorem d_X5_beginNamed_78 : decode mX5_beginNamed.2.2.1 78 = .ok (.getfield 18, 3) := by decide +kernel
theorem d_X5_beginNamed_81 : decode mX5_beginNamed.2.2.1 81 = .ok (.getfield 68, 3) := by decide +kernel
theorem d_X5_beginNamed_84 : decode mX5_beginNamed.2.2.1 84 = .ok (.aload_n 0, 1) := by decide +kernel
theorem d_X5_beginNamed_85 : decode mX5_beginNamed.2.2.1 85 = .ok (.getfield 36, 3) := by decide +kernel
theorem d_X5_beginNamed_88 : decode mX5_beginNamed.2.2.1 88 = .ok (.iaload, 1) := by decide +kernel
theorem d_X5_beginNamed_89 : decode mX5_beginNamed.2.2.1 89 = .ok (.invokevirtual 129, 3) := by decide +kernel
def mX3_name : MD := (3, yX3_name, cX3_name, 3, none)
theorem sel_X3_name : Cond.instanceMethod mX3_name.2.1 ∈ tblG ∧ Cond.selects mX3_name.2.1.cls mX3_name.2.1 mX3_name.2.1 ∈ tblG := ⟨tblG_in (inT4 (List.mem_of_getElem? (i := 73) rfl)) rfl, tblG_in (inT4 (List.mem_of_getElem? (i := 74) rfl)) rfl⟩
theorem s_5_129 : e_siteV 5 129 mX3_name 3 := ⟨tblG_in (inT4 (List.mem_of_getElem? (i := 72) rfl)) rfl, sel_X3_name.1, sel_X3_name.2, rfl⟩
theorem d_X3_name_0 : decode mX3_name.2.2.1 0 = .ok (.aload_n 0, 1) := by decide +kernel
theorem d_X3_name_1 : decode mX3_name.2.2.1 1 = .ok (.getfield 11, 3) := by decide +kernel
theorem d_X3_name_4 : decode mX3_name.2.2.1 4 = .ok (.iload_n 1, 1) := by decide +kernel
theorem d_X3_name_5 : decode mX3_name.2.2.1 5 = .ok (.iaload, 1) := by decide +kernel
theorem d_X3_name_6 : decode mX3_name.2.2.1 6 = .ok (.getstatic 62, 3) := by decide +kernel
theorem d_X3_name_9 : decode mX3_name.2.2.1 9 = .ok (.iload_n 1, 1) := by decide +kernel
theorem d_X3_name_10 : decode mX3_name.2.2.1 10 = .ok (.iaload, 1) := by decide +kernel
theorem d_X3_name_11 : decode mX3_name.2.2.1 11 = .ok (.if_icmp .ge 31, 3) := by decide +kernel
theorem d_X3_name_42 : decode mX3_name.2.2.1 42 = .ok (.return_, 1) := by decide +kernel
theorem d_X3_name_14 : decode mX3_name.2.2.1 14 = .ok (.aload_n 0, 1) := by decide +kernel
theorem d_X3_name_15 : decode mX3_name.2.2.1 15 = .ok (.getfield 30, 3) := by decide +kernel
theorem d_X3_name_18 : decode mX3_name.2.2.1 18 = .ok (.getstatic 65, 3) := by decide +kernel
theorem d_X3_name_21 : decode mX3_name.2.2.1 21 = .ok (.iload_n 1, 1) := by decide +kernel
theorem d_X3_name_22 : decode mX3_name.2.2.1 22 = .ok (.iaload, 1) := by decide +kernel
theorem d_X3_name_23 : decode mX3_name.2.2.1 23 = .ok (.aload_n 0, 1) := by decide +kernel
theorem d_X3_name_24 : decode mX3_name.2.2.1 24 = .ok (.getfield 11, 3) := by decide +kernel
theorem d_X3_name_27 : decode mX3_name.2.2.1 27 = .ok (.iload_n 1, 1) := by decide +kernel
theorem d_X3_name_28 : decode mX3_name.2.2.1 28 = .ok (.iaload, 1) := by decide +kernel
theorem d_X3_name_29 : decode mX3_name.2.2.1 29 = .ok (.iadd, 1) := by decide +kernel
theorem d_X3_name_30 : decode mX3_name.2.2.1 30 = .ok (.iload_n 2, 1) := by decide +kernel
theorem d_X3_name_31 : decode mX3_name.2.2.1 31 = .ok (.iastore, 1) := by decide +kernel
theorem d_X3_name_32 : decode mX3_name.2.2.1 32 = .ok (.aload_n 0, 1) := by decide +kernel
theorem d_X3_name_33 : decode mX3_name.2.2.1 33 = .ok (.getfield 11, 3) := by decide +kernel
theorem d_X3_name_36 : decode mX3_name.2.2.1 36 = .ok (.iload_n 1, 1) := by decide +kernel
theorem d_X3_name_37 : decode mX3_name.2.2.1 37 = .ok (.dup2, 1) := by decide +kernel
theorem d_X3_name_38 : decode mX3_name.2.2.1 38 = .ok (.iaload, 1) := by decide +kernel
theorem d_X3_name_39 : decode mX3_name.2.2.1 39 = .ok (.iconst 1, 1) := by decide +kernel
theorem d_X3_name_40 : decode mX3_name.2.2.1 40 = .ok (.iadd, 1) := by decide +kernel
theorem d_X3_name_41 : decode mX3_name.2.2.1 41 = .ok (.iastore, 1) := by decide +kernel
theorem ok_X3_name : e_m mX3_name 2 := ⟨tblG_in (inT4 (List.mem_of_getElem? (i := 75) rfl)) rfl, plainFor_of_name (by decide), rfl, ini_3, by decide +kernel, by decide⟩
theorem d_X5_beginNamed_92 : decode mX5_beginNamed.2.2.1 92 = .ok (.aload_n 0, 1) := by decide +kernel
theorem d_X5_beginNamed_93 : decode mX5_beginNamed.2.2.1 93 = .ok (.invokevirtual 74, 3) := by decide +kernel
theorem d_X5_beginNamed_96 : decode mX5_beginNamed.2.2.1 96 = .ok (.ireturn, 1) := by decide +kernel
theorem d_X5_beginNamed_66 : decode mX5_beginNamed.2.2.1 66 = .ok (.aload_n 0, 1) := by decide +kernel
theorem d_X5_beginNamed_67 : decode mX5_beginNamed.2.2.1 67 = .ok (.iconst 2, 1) := by decide +kernel
theorem d_X5_beginNamed_68 : decode mX5_beginNamed.2.2.1 68 = .ok (.invokevirtual 56, 3) := by decide +kernel
theorem d_X5_beginNamed_71 : decode mX5_beginNamed.2.2.1 71 = .ok (.ireturn, 1) := by decide +kernel
theorem d_X5_beginNamed_38 : decode mX5_beginNamed.2.2.1 38 = .ok (.aload_n 0, 1) := by decide +kernel
theorem d_X5_beginNamed_39 : decode mX5_beginNamed.2.2.1 39 = .ok (.iconst 1, 1) := by decide +kernel
theorem d_X5_beginNamed_40 : decode mX5_beginNamed.2.2.1 40 = .ok (.invokevirtual 56, 3) := by decide +kernel
theorem d_X5_beginNamed_43 : decode mX5_beginNamed.2.2.1 43 = .ok (.ireturn, 1) := by decide +kernel
theorem d_X5_beginNamed_11 : decode mX5_beginNamed.2.2.1 11 = .ok (.aload_n 0, 1) := by decide +kernel
theorem d_X5_beginNamed_12 : decode mX5_beginNamed.2.2.1 12 = .ok (.iconst 5, 1) := by decide +kernel
theorem d_X5_beginNamed_13 : decode mX5_beginNamed.2.2.1 13 = .ok (.invokevirtual 56, 3) := by decide +kernel
theorem d_X5_beginNamed_16 : decode mX5_beginNamed.2.2.1 16 = .ok (.ireturn, 1) := by decide +kernel
theorem ok_X5_beginNamed : e_m mX5_beginNamed 1 := ⟨tblG_in (inT4 (List.mem_of_getElem? (i := 61) rfl)) rfl, plainFor_of_name (by decide), rfl, ini_5, by decide +kernel, by decide⟩
theorem f_5_133 : e_fld 5 133 3 4 12 2 true := ⟨RX3, TX3, 4, rfl, rfl, by decide, rfl, rfl, rfl, iX3, tblG_in (inT1 (List.mem_of_getElem? (i := 177) rfl)) rfl, tyX3_ok, nmX3⟩
def mX5_part : MD := (5, yX5_part, cX5_part, 8, some .boolean)
theorem d_X5_part_0 : decode mX5_part.2.2.1 0 = .ok (.aload_n 0, 1) := by decide +kernel
theorem d_X5_part_1 : decode mX5_part.2.2.1 1 = .ok (.getfield 22, 3) := by decide +kernel
theorem d_X5_part_4 : decode mX5_part.2.2.1 4 = .ok (.getfield 133, 3) := by decide +kernel
theorem d_X5_part_7 : decode mX5_part.2.2.1 7 = .ok (.iconst 0, 1) := by decide +kernel
theorem d_X5_part_8 : decode mX5_part.2.2.1 8 = .ok (.iaload, 1) := by decide +kernel
theorem d_X5_part_9 : decode mX5_part.2.2.1 9 = .ok (.istore_n 1, 1) := by decide +kernel
theorem d_X5_part_10 : decode mX5_part.2.2.1 10 = .ok (.aload_n 0, 1) := by decide +kernel
theorem d_X5_part_11 : decode mX5_part.2.2.1 11 = .ok (.iconst 0, 1) := by decide +kernel
theorem d_X5_part_12 : decode mX5_part.2.2.1 12 = .ok (.invokevirtual 112, 3) := by decide +kernel
theorem d_X5_part_15 : decode mX5_part.2.2.1 15 = .ok (.ifCond .eq 9, 3) := by decide +kernel
theorem d_X5_part_24 : decode mX5_part.2.2.1 24 = .ok (.iconst 0, 1) := by decide +kernel
theorem d_X5_part_25 : decode mX5_part.2.2.1 25 = .ok (.ireturn, 1) := by decide +kernel
theorem d_X5_part_18 : decode mX5_part.2.2.1 18 = .ok (.iload_n 1, 1) := by decide +kernel
theorem d_X5_part_19 : decode mX5_part.2.2.1 19 = .ok (.bipush 6, 2) := by decide +kernel
theorem d_X5_part_21 : decode mX5_part.2.2.1 21 = .ok (.if_icmp .lt 5, 3) := by decide +kernel
theorem d_X5_part_26 : decode mX5_part.2.2.1 26 = .ok (.aload_n 0, 1) := by decide +kernel
theorem d_X5_part_27 : decode mX5_part.2.2.1 27 = .ok (.bipush 14, 2) := by decide +kernel
theorem d_X5_part_29 : decode mX5_part.2.2.1 29 = .ok (.sipush 999, 3) := by decide +kernel
theorem d_X5_part_32 : decode mX5_part.2.2.1 32 = .ok (.invokevirtual 136, 3) := by decide +kernel
theorem sel_X5_takeTold : Cond.instanceMethod mX5_takeTold.2.1 ∈ tblG ∧ Cond.selects mX5_takeTold.2.1.cls mX5_takeTold.2.1 mX5_takeTold.2.1 ∈ tblG := ⟨tblG_in (inT4 (List.mem_of_getElem? (i := 80) rfl)) rfl, tblG_in (inP2 (q := (mX5_takeTold.2.1, 7)) (List.mem_of_getElem? (i := 3) rfl)) rfl⟩
theorem s_5_136 : e_siteV 5 136 mX5_takeTold 5 := ⟨tblG_in (inT4 (List.mem_of_getElem? (i := 78) rfl)) rfl, sel_X5_takeTold.1, sel_X5_takeTold.2, rfl⟩
theorem ok_X5_takeTold : e_m mX5_takeTold 2 := ⟨tblG_in (inT4 (List.mem_of_getElem? (i := 81) rfl)) rfl, plainFor_of_name (by decide), rfl, ini_5, by decide +kernel, by decide⟩
theorem d_X5_part_35 : decode mX5_part.2.2.1 35 = .ok (.istore_n 2, 1) := by decide +kernel
theorem d_X5_part_36 : decode mX5_part.2.2.1 36 = .ok (.iload_n 2, 1) := by decide +kernel
theorem d_X5_part_37 : decode mX5_part.2.2.1 37 = .ok (.ifCond .ge 7, 3) := by decide +kernel
theorem d_X5_part_44 : decode mX5_part.2.2.1 44 = .ok (.aload_n 0, 1) := by decide +kernel
theorem d_X5_part_45 : decode mX5_part.2.2.1 45 = .ok (.bipush 15, 2) := by decide +kernel
theorem d_X5_part_47 : decode mX5_part.2.2.1 47 = .ok (.bipush 20, 2) := by decide +kernel
theorem d_X5_part_49 : decode mX5_part.2.2.1 49 = .ok (.invokevirtual 136, 3) := by decide +kernel
theorem d_X5_part_40 : decode mX5_part.2.2.1 40 = .ok (.iconst (-1), 1) := by decide +kernel
theorem d_X5_part_41 : decode mX5_part.2.2.1 41 = .ok (.goto 11, 3) := by decide +kernel
theorem d_X5_part_52 : decode mX5_part.2.2.1 52 = .ok (.istore_n 3, 1) := by decide +kernel
theorem d_X5_part_53 : decode mX5_part.2.2.1 53 = .ok (.iload_n 3, 1) := by decide +kernel
theorem d_X5_part_54 : decode mX5_part.2.2.1 54 = .ok (.ifCond .ge 7, 3) := by decide +kernel
theorem d_X5_part_61 : decode mX5_part.2.2.1 61 = .ok (.aload_n 0, 1) := by decide +kernel
theorem d_X5_part_62 : decode mX5_part.2.2.1 62 = .ok (.iconst 0, 1) := by decide +kernel
theorem d_X5_part_63 : decode mX5_part.2.2.1 63 = .ok (.sipush 999, 3) := by decide +kernel
theorem d_X5_part_66 : decode mX5_part.2.2.1 66 = .ok (.invokevirtual 87, 3) := by decide +kernel
theorem d_X5_part_57 : decode mX5_part.2.2.1 57 = .ok (.iconst (-1), 1) := by decide +kernel
theorem d_X5_part_58 : decode mX5_part.2.2.1 58 = .ok (.goto 11, 3) := by decide +kernel
theorem d_X5_part_69 : decode mX5_part.2.2.1 69 = .ok (.istore 4, 2) := by decide +kernel
theorem d_X5_part_71 : decode mX5_part.2.2.1 71 = .ok (.iload 4, 2) := by decide +kernel
theorem d_X5_part_73 : decode mX5_part.2.2.1 73 = .ok (.ifCond .ge 7, 3) := by decide +kernel
theorem d_X5_part_80 : decode mX5_part.2.2.1 80 = .ok (.aload_n 0, 1) := by decide +kernel
theorem d_X5_part_81 : decode mX5_part.2.2.1 81 = .ok (.bipush 16, 2) := by decide +kernel
theorem d_X5_part_83 : decode mX5_part.2.2.1 83 = .ok (.sipush 999, 3) := by decide +kernel
theorem d_X5_part_86 : decode mX5_part.2.2.1 86 = .ok (.invokevirtual 136, 3) := by decide +kernel
theorem d_X5_part_76 : decode mX5_part.2.2.1 76 = .ok (.iconst (-1), 1) := by decide +kernel
theorem d_X5_part_77 : decode mX5_part.2.2.1 77 = .ok (.goto 12, 3) := by decide +kernel
theorem d_X5_part_89 : decode mX5_part.2.2.1 89 = .ok (.istore 5, 2) := by decide +kernel
theorem d_X5_part_91 : decode mX5_part.2.2.1 91 = .ok (.iload 5, 2) := by decide +kernel
theorem d_X5_part_93 : decode mX5_part.2.2.1 93 = .ok (.ifCond .ge 7, 3) := by decide +kernel
theorem d_X5_part_100 : decode mX5_part.2.2.1 100 = .ok (.aload_n 0, 1) := by decide +kernel
theorem d_X5_part_101 : decode mX5_part.2.2.1 101 = .ok (.bipush 17, 2) := by decide +kernel
theorem d_X5_part_103 : decode mX5_part.2.2.1 103 = .ok (.sipush 999, 3) := by decide +kernel
theorem d_X5_part_106 : decode mX5_part.2.2.1 106 = .ok (.invokevirtual 136, 3) := by decide +kernel
theorem d_X5_part_96 : decode mX5_part.2.2.1 96 = .ok (.iconst (-1), 1) := by decide +kernel
theorem d_X5_part_97 : decode mX5_part.2.2.1 97 = .ok (.goto 12, 3) := by decide +kernel
theorem d_X5_part_109 : decode mX5_part.2.2.1 109 = .ok (.istore 6, 2) := by decide +kernel
theorem d_X5_part_111 : decode mX5_part.2.2.1 111 = .ok (.iload 6, 2) := by decide +kernel
theorem d_X5_part_113 : decode mX5_part.2.2.1 113 = .ok (.ifCond .ge 7, 3) := by decide +kernel
theorem d_X5_part_120 : decode mX5_part.2.2.1 120 = .ok (.aload_n 0, 1) := by decide +kernel
theorem d_X5_part_121 : decode mX5_part.2.2.1 121 = .ok (.bipush 18, 2) := by decide +kernel
theorem d_X5_part_123 : decode mX5_part.2.2.1 123 = .ok (.bipush 50, 2) := by decide +kernel
theorem d_X5_part_125 : decode mX5_part.2.2.1 125 = .ok (.invokevirtual 136, 3) := by decide +kernel
theorem d_X5_part_116 : decode mX5_part.2.2.1 116 = .ok (.iconst (-1), 1) := by decide +kernel
theorem d_X5_part_117 : decode mX5_part.2.2.1 117 = .ok (.goto 11, 3) := by decide +kernel
theorem d_X5_part_128 : decode mX5_part.2.2.1 128 = .ok (.istore 7, 2) := by decide +kernel
theorem d_X5_part_130 : decode mX5_part.2.2.1 130 = .ok (.iload 7, 2) := by decide +kernel
theorem d_X5_part_132 : decode mX5_part.2.2.1 132 = .ok (.ifCond .lt 12, 3) := by decide +kernel
theorem d_X5_part_144 : decode mX5_part.2.2.1 144 = .ok (.iconst 0, 1) := by decide +kernel
theorem d_X5_part_145 : decode mX5_part.2.2.1 145 = .ok (.ireturn, 1) := by decide +kernel
theorem d_X5_part_135 : decode mX5_part.2.2.1 135 = .ok (.aload_n 0, 1) := by decide +kernel
theorem d_X5_part_136 : decode mX5_part.2.2.1 136 = .ok (.bipush 59, 2) := by decide +kernel
theorem d_X5_part_138 : decode mX5_part.2.2.1 138 = .ok (.invokevirtual 81, 3) := by decide +kernel
theorem d_X5_part_141 : decode mX5_part.2.2.1 141 = .ok (.ifCond .ne 5, 3) := by decide +kernel
theorem d_X5_part_146 : decode mX5_part.2.2.1 146 = .ok (.aload_n 0, 1) := by decide +kernel
theorem d_X5_part_147 : decode mX5_part.2.2.1 147 = .ok (.getfield 22, 3) := by decide +kernel
theorem d_X5_part_150 : decode mX5_part.2.2.1 150 = .ok (.getfield 139, 3) := by decide +kernel
theorem f_5_139 : e_fld 5 139 3 5 12 2 true := ⟨RX3, TX3, 5, rfl, rfl, by decide, rfl, rfl, rfl, iX3, tblG_in (inT1 (List.mem_of_getElem? (i := 183) rfl)) rfl, tyX3_ok, nmX3⟩
theorem d_X5_part_153 : decode mX5_part.2.2.1 153 = .ok (.iload_n 1, 1) := by decide +kernel
theorem d_X5_part_154 : decode mX5_part.2.2.1 154 = .ok (.iconst 4, 1) := by decide +kernel
