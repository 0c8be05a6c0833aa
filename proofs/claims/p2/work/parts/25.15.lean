theorem d_X7_takeWord_74 : decode mX7_takeWord.2.2.1 74 = .ok (.iload_n 1, 1) := by decide +kernel
theorem d_X7_takeWord_75 : decode mX7_takeWord.2.2.1 75 = .ok (.iload_n 2, 1) := by decide +kernel
theorem d_X7_takeWord_76 : decode mX7_takeWord.2.2.1 76 = .ok (.invokevirtual 64, 3) := by decide +kernel
def mX7_ownWord : MD := (7, yX7_ownWord, cX7_ownWord, 4, some .int)
theorem sel_X7_ownWord : Cond.instanceMethod mX7_ownWord.2.1 ∈ tblG ∧ Cond.selects mX7_ownWord.2.1.cls mX7_ownWord.2.1 mX7_ownWord.2.1 ∈ tblG := ⟨tblG_in (inT3 (List.mem_of_getElem? (i := 135) rfl)) rfl, tblG_in (inP1 (q := (mX7_ownWord.2.1, 6)) (List.mem_of_getElem? (i := 5) rfl)) rfl⟩
theorem s_7_64 : e_siteV 7 64 mX7_ownWord 7 := ⟨tblG_in (inT3 (List.mem_of_getElem? (i := 133) rfl)) rfl, sel_X7_ownWord.1, sel_X7_ownWord.2, rfl⟩
theorem d_X7_ownWord_0 : decode mX7_ownWord.2.2.1 0 = .ok (.iconst 0, 1) := by decide +kernel
theorem d_X7_ownWord_1 : decode mX7_ownWord.2.2.1 1 = .ok (.istore_n 3, 1) := by decide +kernel
theorem d_X7_ownWord_2 : decode mX7_ownWord.2.2.1 2 = .ok (.iload_n 3, 1) := by decide +kernel
theorem d_X7_ownWord_3 : decode mX7_ownWord.2.2.1 3 = .ok (.bipush 27, 2) := by decide +kernel
theorem d_X7_ownWord_5 : decode mX7_ownWord.2.2.1 5 = .ok (.if_icmp .ge 21, 3) := by decide +kernel
theorem d_X7_ownWord_8 : decode mX7_ownWord.2.2.1 8 = .ok (.aload_n 0, 1) := by decide +kernel
theorem d_X7_ownWord_9 : decode mX7_ownWord.2.2.1 9 = .ok (.iload_n 3, 1) := by decide +kernel
theorem d_X7_ownWord_10 : decode mX7_ownWord.2.2.1 10 = .ok (.iload_n 1, 1) := by decide +kernel
theorem d_X7_ownWord_11 : decode mX7_ownWord.2.2.1 11 = .ok (.iload_n 2, 1) := by decide +kernel
theorem d_X7_ownWord_12 : decode mX7_ownWord.2.2.1 12 = .ok (.invokevirtual 68, 3) := by decide +kernel
def mX7_isOwn : MD := (7, yX7_isOwn, cX7_isOwn, 6, some .boolean)
theorem sel_X7_isOwn : Cond.instanceMethod mX7_isOwn.2.1 ∈ tblG ∧ Cond.selects mX7_isOwn.2.1.cls mX7_isOwn.2.1 mX7_isOwn.2.1 ∈ tblG := ⟨tblG_in (inT3 (List.mem_of_getElem? (i := 139) rfl)) rfl, tblG_in (inP1 (q := (mX7_isOwn.2.1, 6)) (List.mem_of_getElem? (i := 6) rfl)) rfl⟩
theorem s_7_68 : e_siteV 7 68 mX7_isOwn 7 := ⟨tblG_in (inT3 (List.mem_of_getElem? (i := 137) rfl)) rfl, sel_X7_isOwn.1, sel_X7_isOwn.2, rfl⟩
theorem d_X7_isOwn_0 : decode mX7_isOwn.2.2.1 0 = .ok (.iconst 0, 1) := by decide +kernel
theorem d_X7_isOwn_1 : decode mX7_isOwn.2.2.1 1 = .ok (.istore 4, 2) := by decide +kernel
theorem d_X7_isOwn_3 : decode mX7_isOwn.2.2.1 3 = .ok (.iload 4, 2) := by decide +kernel
theorem d_X7_isOwn_5 : decode mX7_isOwn.2.2.1 5 = .ok (.bipush 6, 2) := by decide +kernel
theorem d_X7_isOwn_7 : decode mX7_isOwn.2.2.1 7 = .ok (.if_icmp .ge 52, 3) := by decide +kernel
theorem d_X7_isOwn_10 : decode mX7_isOwn.2.2.1 10 = .ok (.iload_n 2, 1) := by decide +kernel
theorem d_X7_isOwn_11 : decode mX7_isOwn.2.2.1 11 = .ok (.iload 4, 2) := by decide +kernel
theorem d_X7_isOwn_13 : decode mX7_isOwn.2.2.1 13 = .ok (.iadd, 1) := by decide +kernel
theorem d_X7_isOwn_14 : decode mX7_isOwn.2.2.1 14 = .ok (.iload_n 3, 1) := by decide +kernel
theorem d_X7_isOwn_15 : decode mX7_isOwn.2.2.1 15 = .ok (.if_icmp .ge 15, 3) := by decide +kernel
theorem d_X7_isOwn_30 : decode mX7_isOwn.2.2.1 30 = .ok (.bipush 32, 2) := by decide +kernel
theorem d_X7_isOwn_18 : decode mX7_isOwn.2.2.1 18 = .ok (.aload_n 0, 1) := by decide +kernel
theorem d_X7_isOwn_19 : decode mX7_isOwn.2.2.1 19 = .ok (.getfield 21, 3) := by decide +kernel
theorem d_X7_isOwn_22 : decode mX7_isOwn.2.2.1 22 = .ok (.iload_n 2, 1) := by decide +kernel
theorem d_X7_isOwn_23 : decode mX7_isOwn.2.2.1 23 = .ok (.iload 4, 2) := by decide +kernel
theorem d_X7_isOwn_25 : decode mX7_isOwn.2.2.1 25 = .ok (.iadd, 1) := by decide +kernel
theorem d_X7_isOwn_26 : decode mX7_isOwn.2.2.1 26 = .ok (.baload, 1) := by decide +kernel
theorem d_X7_isOwn_27 : decode mX7_isOwn.2.2.1 27 = .ok (.goto 5, 3) := by decide +kernel
theorem d_X7_isOwn_32 : decode mX7_isOwn.2.2.1 32 = .ok (.istore 5, 2) := by decide +kernel
theorem d_X7_isOwn_34 : decode mX7_isOwn.2.2.1 34 = .ok (.ldc 72, 2) := by decide +kernel
theorem d_X7_isOwn_36 : decode mX7_isOwn.2.2.1 36 = .ok (.iload_n 1, 1) := by decide +kernel
theorem d_X7_isOwn_37 : decode mX7_isOwn.2.2.1 37 = .ok (.bipush 6, 2) := by decide +kernel
theorem d_X7_isOwn_39 : decode mX7_isOwn.2.2.1 39 = .ok (.imul, 1) := by decide +kernel
theorem d_X7_isOwn_40 : decode mX7_isOwn.2.2.1 40 = .ok (.iload 4, 2) := by decide +kernel
theorem d_X7_isOwn_42 : decode mX7_isOwn.2.2.1 42 = .ok (.iadd, 1) := by decide +kernel
theorem d_X7_isOwn_43 : decode mX7_isOwn.2.2.1 43 = .ok (.invokevirtual 74, 3) := by decide +kernel
def mJ0_charAt_5068e : MD := (19, yJ0_charAt_5068e, cJ0_charAt_5068e, 2, some .char)
theorem sel_J0_charAt_5068e : Cond.instanceMethod mJ0_charAt_5068e.2.1 ∈ tblG ∧ Cond.selects mJ0_charAt_5068e.2.1.cls mJ0_charAt_5068e.2.1 mJ0_charAt_5068e.2.1 ∈ tblG := ⟨tblG_in (inT3 (List.mem_of_getElem? (i := 143) rfl)) rfl, tblG_in (inT3 (List.mem_of_getElem? (i := 144) rfl)) rfl⟩
theorem d_J0_charAt_5068e_0 : decode mJ0_charAt_5068e.2.2.1 0 = .ok (.aload_n 0, 1) := by decide +kernel
theorem d_J0_charAt_5068e_1 : decode mJ0_charAt_5068e.2.2.1 1 = .ok (.invokevirtual 492, 3) := by decide +kernel
theorem d_J0_charAt_5068e_4 : decode mJ0_charAt_5068e.2.2.1 4 = .ok (.ifCond .eq 12, 3) := by decide +kernel
theorem d_J0_charAt_5068e_7 : decode mJ0_charAt_5068e.2.2.1 7 = .ok (.aload_n 0, 1) := by decide +kernel
theorem d_J0_charAt_5068e_8 : decode mJ0_charAt_5068e.2.2.1 8 = .ok (.getfield 9, 3) := by decide +kernel
theorem d_J0_charAt_5068e_11 : decode mJ0_charAt_5068e.2.2.1 11 = .ok (.iload_n 1, 1) := by decide +kernel
theorem d_J0_charAt_5068e_12 : decode mJ0_charAt_5068e.2.2.1 12 = .ok (.invokestatic 495, 3) := by decide +kernel
def mJ1_charAt_3b067 : MD := (20, yJ1_charAt_3b067, cJ1_charAt_3b067, 2, some .char)
theorem s_19_495 : e_siteS 19 495 mJ1_charAt_3b067 := ⟨tblG_in (inT3 (List.mem_of_getElem? (i := 152) rfl)) rfl, tblG_in (inT3 (List.mem_of_getElem? (i := 153) rfl)) rfl⟩
theorem d_J1_charAt_3b067_0 : decode mJ1_charAt_3b067.2.2.1 0 = .ok (.iload_n 1, 1) := by decide +kernel
theorem d_J1_charAt_3b067_1 : decode mJ1_charAt_3b067.2.2.1 1 = .ok (.aload_n 0, 1) := by decide +kernel
theorem d_J1_charAt_3b067_2 : decode mJ1_charAt_3b067.2.2.1 2 = .ok (.arraylength, 1) := by decide +kernel
theorem d_J1_charAt_3b067_3 : decode mJ1_charAt_3b067.2.2.1 3 = .ok (.invokestatic 9, 3) := by decide +kernel
def mJ0_checkIndex_df160 : MD := (19, yJ0_checkIndex_df160, cJ0_checkIndex_df160, 2, none)
theorem s_20_9 : e_siteS 20 9 mJ0_checkIndex_df160 := ⟨tblG_in (inT3 (List.mem_of_getElem? (i := 155) rfl)) rfl, tblG_in (inT3 (List.mem_of_getElem? (i := 156) rfl)) rfl⟩
theorem d_J0_checkIndex_df160_0 : decode mJ0_checkIndex_df160.2.2.1 0 = .ok (.iload_n 0, 1) := by decide +kernel
theorem d_J0_checkIndex_df160_1 : decode mJ0_checkIndex_df160.2.2.1 1 = .ok (.iload_n 1, 1) := by decide +kernel
theorem d_J0_checkIndex_df160_2 : decode mJ0_checkIndex_df160.2.2.1 2 = .ok (.getstatic 1053, 3) := by decide +kernel
theorem d_J0_checkIndex_df160_5 : decode mJ0_checkIndex_df160.2.2.1 5 = .ok (.invokestatic 1059, 3) := by decide +kernel
def mJ3_checkIndex_8e157 : MD := (23, yJ3_checkIndex_8e157, cJ3_checkIndex_8e157, 3, some .int)
theorem s_19_1059 : e_siteS 19 1059 mJ3_checkIndex_8e157 := ⟨tblG_in (inT3 (List.mem_of_getElem? (i := 160) rfl)) rfl, tblG_in (inT3 (List.mem_of_getElem? (i := 161) rfl)) rfl⟩
theorem d_J3_checkIndex_8e157_0 : decode mJ3_checkIndex_8e157.2.2.1 0 = .ok (.iload_n 0, 1) := by decide +kernel
theorem d_J3_checkIndex_8e157_1 : decode mJ3_checkIndex_8e157.2.2.1 1 = .ok (.ifCond .lt 8, 3) := by decide +kernel
theorem d_J3_checkIndex_8e157_4 : decode mJ3_checkIndex_8e157.2.2.1 4 = .ok (.iload_n 0, 1) := by decide +kernel
theorem d_J3_checkIndex_8e157_5 : decode mJ3_checkIndex_8e157.2.2.1 5 = .ok (.iload_n 1, 1) := by decide +kernel
theorem d_J3_checkIndex_8e157_6 : decode mJ3_checkIndex_8e157.2.2.1 6 = .ok (.if_icmp .lt 10, 3) := by decide +kernel
theorem d_J3_checkIndex_8e157_16 : decode mJ3_checkIndex_8e157.2.2.1 16 = .ok (.iload_n 0, 1) := by decide +kernel
theorem d_J3_checkIndex_8e157_17 : decode mJ3_checkIndex_8e157.2.2.1 17 = .ok (.ireturn, 1) := by decide +kernel
theorem ini_23 : Cond.initialized "jdk/internal/util/Preconditions" ∈ tblG := tblG_in (inT1 (List.mem_of_getElem? (i := 17) rfl)) rfl
theorem ok_J3_checkIndex_8e157 : e_m mJ3_checkIndex_8e157 3 := ⟨tblG_in (inT3 (List.mem_of_getElem? (i := 162) rfl)) rfl, plainFor_of_name (by decide), rfl, ini_23, by decide +kernel, by decide⟩
theorem d_J0_checkIndex_df160_8 : decode mJ0_checkIndex_df160.2.2.1 8 = .ok (.pop, 1) := by decide +kernel
theorem d_J0_checkIndex_df160_9 : decode mJ0_checkIndex_df160.2.2.1 9 = .ok (.return_, 1) := by decide +kernel
theorem ok_J0_checkIndex_df160 : e_m mJ0_checkIndex_df160 2 := ⟨tblG_in (inT3 (List.mem_of_getElem? (i := 157) rfl)) rfl, plainFor_of_name (by decide), rfl, ini_19, by decide +kernel, by decide⟩
theorem d_J1_charAt_3b067_6 : decode mJ1_charAt_3b067.2.2.1 6 = .ok (.aload_n 0, 1) := by decide +kernel
theorem d_J1_charAt_3b067_7 : decode mJ1_charAt_3b067.2.2.1 7 = .ok (.iload_n 1, 1) := by decide +kernel
theorem d_J1_charAt_3b067_8 : decode mJ1_charAt_3b067.2.2.1 8 = .ok (.baload, 1) := by decide +kernel
theorem d_J1_charAt_3b067_9 : decode mJ1_charAt_3b067.2.2.1 9 = .ok (.sipush 255, 3) := by decide +kernel
theorem d_J1_charAt_3b067_12 : decode mJ1_charAt_3b067.2.2.1 12 = .ok (.iand, 1) := by decide +kernel
theorem d_J1_charAt_3b067_13 : decode mJ1_charAt_3b067.2.2.1 13 = .ok (.i2c, 1) := by decide +kernel
theorem d_J1_charAt_3b067_14 : decode mJ1_charAt_3b067.2.2.1 14 = .ok (.ireturn, 1) := by decide +kernel
theorem ok_J1_charAt_3b067 : e_m mJ1_charAt_3b067 2 := ⟨tblG_in (inT3 (List.mem_of_getElem? (i := 154) rfl)) rfl, plainFor_of_name (by decide), rfl, ini_20, by decide +kernel, by decide⟩
theorem d_J0_charAt_5068e_15 : decode mJ0_charAt_5068e.2.2.1 15 = .ok (.ireturn, 1) := by decide +kernel
theorem ok_J0_charAt_5068e : e_m mJ0_charAt_5068e 1 := ⟨tblG_in (inT3 (List.mem_of_getElem? (i := 145) rfl)) rfl, plainFor_of_name (by decide), rfl, ini_19, by decide +kernel, by decide⟩
theorem d_X7_isOwn_46 : decode mX7_isOwn.2.2.1 46 = .ok (.iload 5, 2) := by decide +kernel
theorem d_X7_isOwn_48 : decode mX7_isOwn.2.2.1 48 = .ok (.if_icmp .eq 5, 3) := by decide +kernel
theorem d_X7_isOwn_53 : decode mX7_isOwn.2.2.1 53 = .ok (.iinc 4 1, 3) := by decide +kernel
theorem d_X7_isOwn_56 : decode mX7_isOwn.2.2.1 56 = .ok (.goto (-53), 3) := by decide +kernel
theorem d_X7_isOwn_51 : decode mX7_isOwn.2.2.1 51 = .ok (.iconst 0, 1) := by decide +kernel
theorem d_X7_isOwn_52 : decode mX7_isOwn.2.2.1 52 = .ok (.ireturn, 1) := by decide +kernel
theorem d_X7_isOwn_59 : decode mX7_isOwn.2.2.1 59 = .ok (.iconst 1, 1) := by decide +kernel
theorem d_X7_isOwn_60 : decode mX7_isOwn.2.2.1 60 = .ok (.ireturn, 1) := by decide +kernel
theorem ok_X7_isOwn : e_m mX7_isOwn 3 := ⟨tblG_in (inT3 (List.mem_of_getElem? (i := 140) rfl)) rfl, plainFor_of_name (by decide), rfl, ini_7, by decide +kernel, by decide⟩
theorem d_X7_ownWord_15 : decode mX7_ownWord.2.2.1 15 = .ok (.ifCond .eq 5, 3) := by decide +kernel
theorem d_X7_ownWord_20 : decode mX7_ownWord.2.2.1 20 = .ok (.iinc 3 1, 3) := by decide +kernel
theorem d_X7_ownWord_23 : decode mX7_ownWord.2.2.1 23 = .ok (.goto (-21), 3) := by decide +kernel
theorem d_X7_ownWord_18 : decode mX7_ownWord.2.2.1 18 = .ok (.iload_n 3, 1) := by decide +kernel
theorem d_X7_ownWord_19 : decode mX7_ownWord.2.2.1 19 = .ok (.ireturn, 1) := by decide +kernel
theorem d_X7_ownWord_26 : decode mX7_ownWord.2.2.1 26 = .ok (.iconst (-1), 1) := by decide +kernel
theorem d_X7_ownWord_27 : decode mX7_ownWord.2.2.1 27 = .ok (.ireturn, 1) := by decide +kernel
theorem ok_X7_ownWord : e_m mX7_ownWord 2 := ⟨tblG_in (inT3 (List.mem_of_getElem? (i := 136) rfl)) rfl, plainFor_of_name (by decide), rfl, ini_7, by decide +kernel, by decide⟩
theorem d_X7_takeWord_79 : decode mX7_takeWord.2.2.1 79 = .ok (.istore 4, 2) := by decide +kernel
theorem d_X7_takeWord_81 : decode mX7_takeWord.2.2.1 81 = .ok (.iload 4, 2) := by decide +kernel
theorem d_X7_takeWord_83 : decode mX7_takeWord.2.2.1 83 = .ok (.ifCond .lt 13, 3) := by decide +kernel
theorem d_X7_takeWord_96 : decode mX7_takeWord.2.2.1 96 = .ok (.aload_n 0, 1) := by decide +kernel
theorem d_X7_takeWord_97 : decode mX7_takeWord.2.2.1 97 = .ok (.iconst 3, 1) := by decide +kernel
theorem d_X7_takeWord_98 : decode mX7_takeWord.2.2.1 98 = .ok (.iload_n 1, 1) := by decide +kernel
theorem d_X7_takeWord_99 : decode mX7_takeWord.2.2.1 99 = .ok (.iload_n 3, 1) := by decide +kernel
theorem d_X7_takeWord_100 : decode mX7_takeWord.2.2.1 100 = .ok (.iload_n 2, 1) := by decide +kernel
theorem d_X7_takeWord_101 : decode mX7_takeWord.2.2.1 101 = .ok (.invokevirtual 40, 3) := by decide +kernel
theorem d_X7_takeWord_104 : decode mX7_takeWord.2.2.1 104 = .ok (.ireturn, 1) := by decide +kernel
theorem d_X7_takeWord_86 : decode mX7_takeWord.2.2.1 86 = .ok (.aload_n 0, 1) := by decide +kernel
theorem d_X7_takeWord_87 : decode mX7_takeWord.2.2.1 87 = .ok (.iconst 2, 1) := by decide +kernel
theorem d_X7_takeWord_88 : decode mX7_takeWord.2.2.1 88 = .ok (.iload_n 1, 1) := by decide +kernel
theorem d_X7_takeWord_89 : decode mX7_takeWord.2.2.1 89 = .ok (.iload 4, 2) := by decide +kernel
theorem d_X7_takeWord_91 : decode mX7_takeWord.2.2.1 91 = .ok (.iload_n 2, 1) := by decide +kernel
theorem d_X7_takeWord_92 : decode mX7_takeWord.2.2.1 92 = .ok (.invokevirtual 40, 3) := by decide +kernel
theorem d_X7_takeWord_95 : decode mX7_takeWord.2.2.1 95 = .ok (.ireturn, 1) := by decide +kernel
theorem d_X7_takeWord_61 : decode mX7_takeWord.2.2.1 61 = .ok (.aload_n 0, 1) := by decide +kernel
theorem d_X7_takeWord_62 : decode mX7_takeWord.2.2.1 62 = .ok (.iconst 1, 1) := by decide +kernel
theorem d_X7_takeWord_63 : decode mX7_takeWord.2.2.1 63 = .ok (.iload_n 1, 1) := by decide +kernel
theorem d_X7_takeWord_64 : decode mX7_takeWord.2.2.1 64 = .ok (.bipush 6, 2) := by decide +kernel
theorem d_X7_takeWord_66 : decode mX7_takeWord.2.2.1 66 = .ok (.iadd, 1) := by decide +kernel
theorem d_X7_takeWord_67 : decode mX7_takeWord.2.2.1 67 = .ok (.iconst 0, 1) := by decide +kernel
theorem d_X7_takeWord_68 : decode mX7_takeWord.2.2.1 68 = .ok (.iconst (-1), 1) := by decide +kernel
theorem d_X7_takeWord_69 : decode mX7_takeWord.2.2.1 69 = .ok (.invokevirtual 40, 3) := by decide +kernel
theorem d_X7_takeWord_72 : decode mX7_takeWord.2.2.1 72 = .ok (.ireturn, 1) := by decide +kernel
theorem ok_X7_takeWord : e_m mX7_takeWord 1 := ⟨tblG_in (inT3 (List.mem_of_getElem? (i := 132) rfl)) rfl, plainFor_of_name (by decide), rfl, ini_7, by decide +kernel, by decide⟩
theorem d_X7_takeOne_63 : decode mX7_takeOne.2.2.1 63 = .ok (.goto 8, 3) := by decide +kernel
theorem ok_X7_takeOne : e_m mX7_takeOne 2 := ⟨tblG_in (inT3 (List.mem_of_getElem? (i := 118) rfl)) rfl, plainFor_of_name (by decide), rfl, ini_7, by decide +kernel, by decide⟩
theorem d_X7_takeApart_68 : decode mX7_takeApart.2.2.1 68 = .ok (.istore_n 3, 1) := by decide +kernel
theorem d_X7_takeApart_69 : decode mX7_takeApart.2.2.1 69 = .ok (.aload_n 0, 1) := by decide +kernel
theorem d_X7_takeApart_70 : decode mX7_takeApart.2.2.1 70 = .ok (.getfield 29, 3) := by decide +kernel
theorem d_X7_takeApart_73 : decode mX7_takeApart.2.2.1 73 = .ok (.ifCond .le 22, 3) := by decide +kernel
theorem d_X7_takeApart_76 : decode mX7_takeApart.2.2.1 76 = .ok (.aload_n 0, 1) := by decide +kernel
theorem d_X7_takeApart_77 : decode mX7_takeApart.2.2.1 77 = .ok (.getfield 9, 3) := by decide +kernel
theorem d_X7_takeApart_80 : decode mX7_takeApart.2.2.1 80 = .ok (.aload_n 0, 1) := by decide +kernel
theorem d_X7_takeApart_81 : decode mX7_takeApart.2.2.1 81 = .ok (.getfield 29, 3) := by decide +kernel
theorem d_X7_takeApart_84 : decode mX7_takeApart.2.2.1 84 = .ok (.iconst 1, 1) := by decide +kernel
theorem d_X7_takeApart_85 : decode mX7_takeApart.2.2.1 85 = .ok (.isub, 1) := by decide +kernel
theorem d_X7_takeApart_86 : decode mX7_takeApart.2.2.1 86 = .ok (.iaload, 1) := by decide +kernel
theorem d_X7_takeApart_87 : decode mX7_takeApart.2.2.1 87 = .ok (.iconst 5, 1) := by decide +kernel
theorem d_X7_takeApart_88 : decode mX7_takeApart.2.2.1 88 = .ok (.if_icmp .eq 7, 3) := by decide +kernel
theorem d_X7_takeApart_91 : decode mX7_takeApart.2.2.1 91 = .ok (.iconst 1, 1) := by decide +kernel
theorem d_X7_takeApart_92 : decode mX7_takeApart.2.2.1 92 = .ok (.goto 4, 3) := by decide +kernel
theorem d_X7_takeApart_95 : decode mX7_takeApart.2.2.1 95 = .ok (.iconst 0, 1) := by decide +kernel
theorem d_X7_takeApart_96 : decode mX7_takeApart.2.2.1 96 = .ok (.istore 4, 2) := by decide +kernel
theorem d_X7_takeApart_98 : decode mX7_takeApart.2.2.1 98 = .ok (.iinc 5 1, 3) := by decide +kernel
theorem d_X7_takeApart_101 : decode mX7_takeApart.2.2.1 101 = .ok (.goto (-78), 3) := by decide +kernel
theorem d_X7_takeApart_104 : decode mX7_takeApart.2.2.1 104 = .ok (.return_, 1) := by decide +kernel
theorem d_X7_takeApart_47 : decode mX7_takeApart.2.2.1 47 = .ok (.iload 6, 2) := by decide +kernel
theorem d_X7_takeApart_49 : decode mX7_takeApart.2.2.1 49 = .ok (.iload_n 3, 1) := by decide +kernel
theorem d_X7_takeApart_50 : decode mX7_takeApart.2.2.1 50 = .ok (.if_icmp .ne 7, 3) := by decide +kernel
theorem d_X7_takeApart_53 : decode mX7_takeApart.2.2.1 53 = .ok (.iconst 1, 1) := by decide +kernel
theorem d_X7_takeApart_54 : decode mX7_takeApart.2.2.1 54 = .ok (.goto 4, 3) := by decide +kernel
theorem d_X7_takeOne_42 : decode mX7_takeOne.2.2.1 42 = .ok (.aload_n 0, 1) := by decide +kernel
theorem d_X7_takeOne_43 : decode mX7_takeOne.2.2.1 43 = .ok (.iconst 1, 1) := by decide +kernel
theorem d_X7_takeOne_44 : decode mX7_takeOne.2.2.1 44 = .ok (.iload_n 1, 1) := by decide +kernel
theorem d_X7_takeOne_45 : decode mX7_takeOne.2.2.1 45 = .ok (.iconst 0, 1) := by decide +kernel
theorem d_X7_takeOne_46 : decode mX7_takeOne.2.2.1 46 = .ok (.iconst (-1), 1) := by decide +kernel
theorem d_X7_takeOne_47 : decode mX7_takeOne.2.2.1 47 = .ok (.invokevirtual 40, 3) := by decide +kernel
theorem d_X7_takeOne_50 : decode mX7_takeOne.2.2.1 50 = .ok (.ireturn, 1) := by decide +kernel
theorem ok_X7_takeApart : e_m mX7_takeApart 2 := ⟨tblG_in (inT3 (List.mem_of_getElem? (i := 110) rfl)) rfl, plainFor_of_name (by decide), rfl, ini_7, by decide +kernel, by decide⟩
theorem d_X11_text_15 : decode mX11_text.2.2.1 15 = .ok (.aload_n 0, 1) := by decide +kernel
theorem d_X11_text_16 : decode mX11_text.2.2.1 16 = .ok (.iconst 0, 1) := by decide +kernel
theorem d_X11_text_17 : decode mX11_text.2.2.1 17 = .ok (.putfield 84, 3) := by decide +kernel
theorem d_X11_text_20 : decode mX11_text.2.2.1 20 = .ok (.aload_n 0, 1) := by decide +kernel
theorem d_X11_text_21 : decode mX11_text.2.2.1 21 = .ok (.getfield 23, 3) := by decide +kernel
theorem d_X11_text_24 : decode mX11_text.2.2.1 24 = .ok (.aload_n 0, 1) := by decide +kernel
theorem d_X11_text_25 : decode mX11_text.2.2.1 25 = .ok (.getfield 16, 3) := by decide +kernel
theorem d_X11_text_28 : decode mX11_text.2.2.1 28 = .ok (.aload_n 0, 1) := by decide +kernel
theorem d_X11_text_29 : decode mX11_text.2.2.1 29 = .ok (.getfield 34, 3) := by decide +kernel
theorem d_X11_text_32 : decode mX11_text.2.2.1 32 = .ok (.invokevirtual 96, 3) := by decide +kernel
def mX5_read : MD := (5, yX5_read, cX5_read, 3, some .boolean)
theorem sel_X5_read : Cond.instanceMethod mX5_read.2.1 ∈ tblG ∧ Cond.selects mX5_read.2.1.cls mX5_read.2.1 mX5_read.2.1 ∈ tblG := ⟨tblG_in (inT4 (List.mem_of_getElem? (i := 14) rfl)) rfl, tblG_in (inT4 (List.mem_of_getElem? (i := 15) rfl)) rfl⟩
theorem s_11_96 : e_siteV 11 96 mX5_read 5 := ⟨tblG_in (inT4 (List.mem_of_getElem? (i := 13) rfl)) rfl, sel_X5_read.1, sel_X5_read.2, rfl⟩
theorem d_X5_read_0 : decode mX5_read.2.2.1 0 = .ok (.aload_n 0, 1) := by decide +kernel
theorem d_X5_read_1 : decode mX5_read.2.2.1 1 = .ok (.aload_n 1, 1) := by decide +kernel
theorem d_X5_read_2 : decode mX5_read.2.2.1 2 = .ok (.putfield 18, 3) := by decide +kernel
theorem f_5_18 : e_fld 5 18 5 2 7 2 false := ⟨RX5, TX5, 2, rfl, rfl, by decide, rfl, rfl, rfl, iX5, tblG_in (inT1 (List.mem_of_getElem? (i := 72) rfl)) rfl, tyX5_ok, nmX5⟩
theorem d_X5_read_5 : decode mX5_read.2.2.1 5 = .ok (.aload_n 0, 1) := by decide +kernel
theorem d_X5_read_6 : decode mX5_read.2.2.1 6 = .ok (.aload_n 2, 1) := by decide +kernel
theorem d_X5_read_7 : decode mX5_read.2.2.1 7 = .ok (.putfield 22, 3) := by decide +kernel
theorem f_5_22 : e_fld 5 22 5 3 7 2 false := ⟨RX5, TX5, 3, rfl, rfl, by decide, rfl, rfl, rfl, iX5, tblG_in (inT1 (List.mem_of_getElem? (i := 73) rfl)) rfl, tyX5_ok, nmX5⟩
theorem d_X5_read_10 : decode mX5_read.2.2.1 10 = .ok (.aload_n 0, 1) := by decide +kernel
theorem d_X5_read_11 : decode mX5_read.2.2.1 11 = .ok (.aload_n 2, 1) := by decide +kernel
theorem d_X5_read_12 : decode mX5_read.2.2.1 12 = .ok (.getfield 26, 3) := by decide +kernel
theorem f_5_26 : e_fld 5 26 3 11 12 2 true := ⟨RX3, TX3, 11, rfl, rfl, by decide, rfl, rfl, rfl, iX3, tblG_in (inT1 (List.mem_of_getElem? (i := 204) rfl)) rfl, tyX3_ok, nmX3⟩
theorem d_X5_read_15 : decode mX5_read.2.2.1 15 = .ok (.putfield 32, 3) := by decide +kernel
theorem f_5_32 : e_fld 5 32 5 4 7 2 false := ⟨RX5, TX5, 4, rfl, rfl, by decide, rfl, rfl, rfl, iX5, tblG_in (inT1 (List.mem_of_getElem? (i := 74) rfl)) rfl, tyX5_ok, nmX5⟩
theorem d_X5_read_18 : decode mX5_read.2.2.1 18 = .ok (.aload_n 0, 1) := by decide +kernel
theorem d_X5_read_19 : decode mX5_read.2.2.1 19 = .ok (.getfield 22, 3) := by decide +kernel
theorem d_X5_read_22 : decode mX5_read.2.2.1 22 = .ok (.invokevirtual 33, 3) := by decide +kernel
theorem s_5_33 : e_siteV 5 33 mX3_clear 3 := ⟨tblG_in (inT4 (List.mem_of_getElem? (i := 17) rfl)) rfl, sel_X3_clear.1, sel_X3_clear.2, rfl⟩
theorem d_X5_read_25 : decode mX5_read.2.2.1 25 = .ok (.aload_n 0, 1) := by decide +kernel
theorem d_X5_read_26 : decode mX5_read.2.2.1 26 = .ok (.iconst 0, 1) := by decide +kernel
theorem d_X5_read_27 : decode mX5_read.2.2.1 27 = .ok (.putfield 36, 3) := by decide +kernel
theorem f_5_36 : e_fld 5 36 5 5 7 0 false := ⟨RX5, TX5, 5, rfl, rfl, by decide, rfl, rfl, rfl, iX5, tblG_in (inT1 (List.mem_of_getElem? (i := 75) rfl)) rfl, tyX5_ok, nmX5⟩
theorem d_X5_read_30 : decode mX5_read.2.2.1 30 = .ok (.aload_n 0, 1) := by decide +kernel
theorem d_X5_read_31 : decode mX5_read.2.2.1 31 = .ok (.iconst 0, 1) := by decide +kernel
theorem d_X5_read_32 : decode mX5_read.2.2.1 32 = .ok (.putfield 39, 3) := by decide +kernel
theorem f_5_39 : e_fld 5 39 5 6 7 0 false := ⟨RX5, TX5, 6, rfl, rfl, by decide, rfl, rfl, rfl, iX5, tblG_in (inT1 (List.mem_of_getElem? (i := 76) rfl)) rfl, tyX5_ok, nmX5⟩
theorem d_X5_read_35 : decode mX5_read.2.2.1 35 = .ok (.aload_n 0, 1) := by decide +kernel
theorem d_X5_read_36 : decode mX5_read.2.2.1 36 = .ok (.iconst 0, 1) := by decide +kernel
theorem d_X5_read_37 : decode mX5_read.2.2.1 37 = .ok (.putfield 9, 3) := by decide +kernel
theorem d_X5_read_40 : decode mX5_read.2.2.1 40 = .ok (.aload_n 0, 1) := by decide +kernel
theorem d_X5_read_41 : decode mX5_read.2.2.1 41 = .ok (.iconst (-1), 1) := by decide +kernel
theorem d_X5_read_42 : decode mX5_read.2.2.1 42 = .ok (.putfield 15, 3) := by decide +kernel
theorem d_X5_read_45 : decode mX5_read.2.2.1 45 = .ok (.aload_n 0, 1) := by decide +kernel
theorem d_X5_read_46 : decode mX5_read.2.2.1 46 = .ok (.invokevirtual 42, 3) := by decide +kernel
def mX5_declarations : MD := (5, yX5_declarations, cX5_declarations, 3, some .boolean)
theorem sel_X5_declarations : Cond.instanceMethod mX5_declarations.2.1 ∈ tblG ∧ Cond.selects mX5_declarations.2.1.cls mX5_declarations.2.1 mX5_declarations.2.1 ∈ tblG := ⟨tblG_in (inT4 (List.mem_of_getElem? (i := 20) rfl)) rfl, tblG_in (inP1 (q := (mX5_declarations.2.1, 7)) (List.mem_of_getElem? (i := 8) rfl)) rfl⟩
theorem s_5_42 : e_siteV 5 42 mX5_declarations 5 := ⟨tblG_in (inT4 (List.mem_of_getElem? (i := 18) rfl)) rfl, sel_X5_declarations.1, sel_X5_declarations.2, rfl⟩
theorem d_X5_declarations_0 : decode mX5_declarations.2.2.1 0 = .ok (.iconst 1, 1) := by decide +kernel
theorem d_X5_declarations_1 : decode mX5_declarations.2.2.1 1 = .ok (.istore_n 1, 1) := by decide +kernel
theorem d_X5_declarations_2 : decode mX5_declarations.2.2.1 2 = .ok (.iconst 0, 1) := by decide +kernel
theorem d_X5_declarations_3 : decode mX5_declarations.2.2.1 3 = .ok (.istore_n 2, 1) := by decide +kernel
theorem d_X5_declarations_4 : decode mX5_declarations.2.2.1 4 = .ok (.iload_n 2, 1) := by decide +kernel
theorem d_X5_declarations_5 : decode mX5_declarations.2.2.1 5 = .ok (.sipush 900, 3) := by decide +kernel
theorem d_X5_declarations_8 : decode mX5_declarations.2.2.1 8 = .ok (.if_icmp .ge 62, 3) := by decide +kernel
theorem d_X5_declarations_11 : decode mX5_declarations.2.2.1 11 = .ok (.iload_n 1, 1) := by decide +kernel
theorem d_X5_declarations_12 : decode mX5_declarations.2.2.1 12 = .ok (.ifCond .eq 58, 3) := by decide +kernel
theorem d_X5_declarations_15 : decode mX5_declarations.2.2.1 15 = .ok (.aload_n 0, 1) := by decide +kernel
theorem d_X5_declarations_16 : decode mX5_declarations.2.2.1 16 = .ok (.getfield 18, 3) := by decide +kernel
