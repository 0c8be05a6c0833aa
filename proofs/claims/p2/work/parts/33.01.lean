theorem d_J1_indexOf_4cfef_29 : decode mJ1_indexOf_4cfef.2.2.1 29 = .ok (.aload_n 0, 1) := by decide +kernel
theorem d_J1_indexOf_4cfef_30 : decode mJ1_indexOf_4cfef.2.2.1 30 = .ok (.iload_n 1, 1) := by decide +kernel
theorem d_J1_indexOf_4cfef_31 : decode mJ1_indexOf_4cfef.2.2.1 31 = .ok (.iload_n 2, 1) := by decide +kernel
theorem d_J1_indexOf_4cfef_32 : decode mJ1_indexOf_4cfef.2.2.1 32 = .ok (.iload_n 3, 1) := by decide +kernel
theorem d_J1_indexOf_4cfef_33 : decode mJ1_indexOf_4cfef.2.2.1 33 = .ok (.invokestatic 95, 3) := by decide +kernel
def mJ1_indexOfChar_4cfef : MD := (20, yJ1_indexOfChar_4cfef, cJ1_indexOfChar_4cfef, 6, some .int)
theorem s_20_95 : e_siteS 20 95 mJ1_indexOfChar_4cfef := ⟨tblG_in (inT3 (List.mem_of_getElem? (i := 215) rfl)) rfl, tblG_in (inT3 (List.mem_of_getElem? (i := 216) rfl)) rfl⟩
theorem d_J1_indexOfChar_4cfef_0 : decode mJ1_indexOfChar_4cfef.2.2.1 0 = .ok (.iload_n 1, 1) := by decide +kernel
theorem d_J1_indexOfChar_4cfef_1 : decode mJ1_indexOfChar_4cfef.2.2.1 1 = .ok (.i2b, 1) := by decide +kernel
theorem d_J1_indexOfChar_4cfef_2 : decode mJ1_indexOfChar_4cfef.2.2.1 2 = .ok (.istore 4, 2) := by decide +kernel
theorem d_J1_indexOfChar_4cfef_4 : decode mJ1_indexOfChar_4cfef.2.2.1 4 = .ok (.iload_n 2, 1) := by decide +kernel
theorem d_J1_indexOfChar_4cfef_5 : decode mJ1_indexOfChar_4cfef.2.2.1 5 = .ok (.istore 5, 2) := by decide +kernel
theorem d_J1_indexOfChar_4cfef_7 : decode mJ1_indexOfChar_4cfef.2.2.1 7 = .ok (.iload 5, 2) := by decide +kernel
theorem d_J1_indexOfChar_4cfef_9 : decode mJ1_indexOfChar_4cfef.2.2.1 9 = .ok (.iload_n 3, 1) := by decide +kernel
theorem d_J1_indexOfChar_4cfef_10 : decode mJ1_indexOfChar_4cfef.2.2.1 10 = .ok (.if_icmp .ge 21, 3) := by decide +kernel
theorem d_J1_indexOfChar_4cfef_13 : decode mJ1_indexOfChar_4cfef.2.2.1 13 = .ok (.aload_n 0, 1) := by decide +kernel
theorem d_J1_indexOfChar_4cfef_14 : decode mJ1_indexOfChar_4cfef.2.2.1 14 = .ok (.iload 5, 2) := by decide +kernel
theorem d_J1_indexOfChar_4cfef_16 : decode mJ1_indexOfChar_4cfef.2.2.1 16 = .ok (.baload, 1) := by decide +kernel
theorem d_J1_indexOfChar_4cfef_17 : decode mJ1_indexOfChar_4cfef.2.2.1 17 = .ok (.iload 4, 2) := by decide +kernel
theorem d_J1_indexOfChar_4cfef_19 : decode mJ1_indexOfChar_4cfef.2.2.1 19 = .ok (.if_icmp .ne 6, 3) := by decide +kernel
theorem d_J1_indexOfChar_4cfef_25 : decode mJ1_indexOfChar_4cfef.2.2.1 25 = .ok (.iinc 5 1, 3) := by decide +kernel
theorem d_J1_indexOfChar_4cfef_28 : decode mJ1_indexOfChar_4cfef.2.2.1 28 = .ok (.goto (-21), 3) := by decide +kernel
theorem d_J1_indexOfChar_4cfef_22 : decode mJ1_indexOfChar_4cfef.2.2.1 22 = .ok (.iload 5, 2) := by decide +kernel
theorem d_J1_indexOfChar_4cfef_24 : decode mJ1_indexOfChar_4cfef.2.2.1 24 = .ok (.ireturn, 1) := by decide +kernel
theorem d_J1_indexOfChar_4cfef_31 : decode mJ1_indexOfChar_4cfef.2.2.1 31 = .ok (.iconst (-1), 1) := by decide +kernel
theorem d_J1_indexOfChar_4cfef_32 : decode mJ1_indexOfChar_4cfef.2.2.1 32 = .ok (.ireturn, 1) := by decide +kernel
theorem ok_J1_indexOfChar_4cfef : e_m mJ1_indexOfChar_4cfef 4 := ⟨tblG_in (inT3 (List.mem_of_getElem? (i := 217) rfl)) rfl, plainFor_of_name (by decide), rfl, ini_20, by decide +kernel, by decide⟩
theorem d_J1_indexOf_4cfef_36 : decode mJ1_indexOf_4cfef.2.2.1 36 = .ok (.ireturn, 1) := by decide +kernel
theorem d_J1_indexOf_4cfef_27 : decode mJ1_indexOf_4cfef.2.2.1 27 = .ok (.iconst (-1), 1) := by decide +kernel
theorem d_J1_indexOf_4cfef_28 : decode mJ1_indexOf_4cfef.2.2.1 28 = .ok (.ireturn, 1) := by decide +kernel
theorem ok_J1_indexOf_4cfef : e_m mJ1_indexOf_4cfef 4 := ⟨tblG_in (inT3 (List.mem_of_getElem? (i := 205) rfl)) rfl, plainFor_of_name (by decide), rfl, ini_20, by decide +kernel, by decide⟩
theorem d_J0_indexOf_7cf53_20 : decode mJ0_indexOf_7cf53.2.2.1 20 = .ok (.goto 16, 3) := by decide +kernel
theorem d_J0_indexOf_7cf53_36 : decode mJ0_indexOf_7cf53.2.2.1 36 = .ok (.ireturn, 1) := by decide +kernel
theorem ok_J0_indexOf_7cf53 : e_m mJ0_indexOf_7cf53 2 := ⟨tblG_in (inT3 (List.mem_of_getElem? (i := 194) rfl)) rfl, plainFor_of_name (by decide), rfl, ini_19, by decide +kernel, by decide⟩
theorem d_J0_indexOf_0f7a4_6 : decode mJ0_indexOf_0f7a4.2.2.1 6 = .ok (.ireturn, 1) := by decide +kernel
theorem ok_J0_indexOf_0f7a4 : e_m mJ0_indexOf_0f7a4 1 := ⟨tblG_in (inT3 (List.mem_of_getElem? (i := 190) rfl)) rfl, plainFor_of_name (by decide), rfl, ini_19, by decide +kernel, by decide⟩
theorem d_X7_takeOne_83 : decode mX7_takeOne.2.2.1 83 = .ok (.ifCond .lt 14, 3) := by decide +kernel
theorem d_X7_takeOne_86 : decode mX7_takeOne.2.2.1 86 = .ok (.aload_n 0, 1) := by decide +kernel
theorem d_X7_takeOne_87 : decode mX7_takeOne.2.2.1 87 = .ok (.iconst 5, 1) := by decide +kernel
theorem d_X7_takeOne_88 : decode mX7_takeOne.2.2.1 88 = .ok (.iload_n 1, 1) := by decide +kernel
theorem d_X7_takeOne_89 : decode mX7_takeOne.2.2.1 89 = .ok (.iload_n 3, 1) := by decide +kernel
theorem d_X7_takeOne_90 : decode mX7_takeOne.2.2.1 90 = .ok (.iload_n 1, 1) := by decide +kernel
theorem d_X7_takeOne_91 : decode mX7_takeOne.2.2.1 91 = .ok (.iconst 1, 1) := by decide +kernel
theorem d_X7_takeOne_92 : decode mX7_takeOne.2.2.1 92 = .ok (.iadd, 1) := by decide +kernel
theorem d_X7_takeOne_93 : decode mX7_takeOne.2.2.1 93 = .ok (.invokevirtual 40, 3) := by decide +kernel
theorem d_X7_takeOne_96 : decode mX7_takeOne.2.2.1 96 = .ok (.ireturn, 1) := by decide +kernel
theorem d_X7_takeOne_8 : decode mX7_takeOne.2.2.1 8 = .ok (.aload_n 0, 1) := by decide +kernel
theorem d_X7_takeOne_9 : decode mX7_takeOne.2.2.1 9 = .ok (.iconst 0, 1) := by decide +kernel
theorem d_X7_takeOne_10 : decode mX7_takeOne.2.2.1 10 = .ok (.iload_n 1, 1) := by decide +kernel
theorem d_X7_takeOne_11 : decode mX7_takeOne.2.2.1 11 = .ok (.iconst 0, 1) := by decide +kernel
theorem d_X7_takeOne_12 : decode mX7_takeOne.2.2.1 12 = .ok (.iconst (-1), 1) := by decide +kernel
theorem d_X7_takeOne_13 : decode mX7_takeOne.2.2.1 13 = .ok (.invokevirtual 40, 3) := by decide +kernel
theorem d_X7_takeOne_16 : decode mX7_takeOne.2.2.1 16 = .ok (.ireturn, 1) := by decide +kernel
theorem d_X7_takeOne_97 : decode mX7_takeOne.2.2.1 97 = .ok (.aload_n 0, 1) := by decide +kernel
theorem d_X7_takeOne_98 : decode mX7_takeOne.2.2.1 98 = .ok (.iconst 1, 1) := by decide +kernel
theorem d_X7_takeOne_99 : decode mX7_takeOne.2.2.1 99 = .ok (.iload_n 1, 1) := by decide +kernel
theorem d_X7_takeOne_100 : decode mX7_takeOne.2.2.1 100 = .ok (.iconst 0, 1) := by decide +kernel
theorem d_X7_takeOne_101 : decode mX7_takeOne.2.2.1 101 = .ok (.iconst (-1), 1) := by decide +kernel
theorem d_X7_takeOne_102 : decode mX7_takeOne.2.2.1 102 = .ok (.invokevirtual 40, 3) := by decide +kernel
theorem d_X7_takeOne_105 : decode mX7_takeOne.2.2.1 105 = .ok (.ireturn, 1) := by decide +kernel
theorem d_X7_takeOne_38 : decode mX7_takeOne.2.2.1 38 = .ok (.iload_n 2, 1) := by decide +kernel
theorem d_X7_takeOne_39 : decode mX7_takeOne.2.2.1 39 = .ok (.ifCond .eq 12, 3) := by decide +kernel
theorem d_X7_takeOne_51 : decode mX7_takeOne.2.2.1 51 = .ok (.iload_n 3, 1) := by decide +kernel
theorem d_X7_takeOne_52 : decode mX7_takeOne.2.2.1 52 = .ok (.invokestatic 44, 3) := by decide +kernel
theorem d_X7_takeOne_55 : decode mX7_takeOne.2.2.1 55 = .ok (.ifCond .eq 11, 3) := by decide +kernel
theorem d_X7_takeOne_66 : decode mX7_takeOne.2.2.1 66 = .ok (.aload_n 0, 1) := by decide +kernel
theorem d_X7_takeOne_67 : decode mX7_takeOne.2.2.1 67 = .ok (.iload_n 1, 1) := by decide +kernel
theorem d_X7_takeOne_68 : decode mX7_takeOne.2.2.1 68 = .ok (.invokevirtual 54, 3) := by decide +kernel
theorem sel_X7_takeNumber : Cond.instanceMethod mX7_takeNumber.2.1 ∈ tblG ∧ Cond.selects mX7_takeNumber.2.1.cls mX7_takeNumber.2.1 mX7_takeNumber.2.1 ∈ tblG := ⟨tblG_in (inT3 (List.mem_of_getElem? (i := 184) rfl)) rfl, tblG_in (inP1 (q := (mX7_takeNumber.2.1, 6)) (List.mem_of_getElem? (i := 7) rfl)) rfl⟩
theorem s_7_54 : e_siteV 7 54 mX7_takeNumber 7 := ⟨tblG_in (inT3 (List.mem_of_getElem? (i := 182) rfl)) rfl, sel_X7_takeNumber.1, sel_X7_takeNumber.2, rfl⟩
theorem ok_X7_takeNumber : e_m mX7_takeNumber 1 := ⟨tblG_in (inT3 (List.mem_of_getElem? (i := 185) rfl)) rfl, plainFor_of_name (by decide), rfl, ini_7, by decide +kernel, by decide⟩
theorem d_X7_takeOne_71 : decode mX7_takeOne.2.2.1 71 = .ok (.ireturn, 1) := by decide +kernel
theorem d_X7_takeOne_58 : decode mX7_takeOne.2.2.1 58 = .ok (.aload_n 0, 1) := by decide +kernel
theorem d_X7_takeOne_59 : decode mX7_takeOne.2.2.1 59 = .ok (.iload_n 1, 1) := by decide +kernel
theorem d_X7_takeOne_60 : decode mX7_takeOne.2.2.1 60 = .ok (.invokevirtual 51, 3) := by decide +kernel
def mX7_takeWord : MD := (7, yX7_takeWord, cX7_takeWord, 5, some .int)
theorem sel_X7_takeWord : Cond.instanceMethod mX7_takeWord.2.1 ∈ tblG ∧ Cond.selects mX7_takeWord.2.1.cls mX7_takeWord.2.1 mX7_takeWord.2.1 ∈ tblG := ⟨tblG_in (inT3 (List.mem_of_getElem? (i := 131) rfl)) rfl, tblG_in (inP1 (q := (mX7_takeWord.2.1, 6)) (List.mem_of_getElem? (i := 4) rfl)) rfl⟩
theorem s_7_51 : e_siteV 7 51 mX7_takeWord 7 := ⟨tblG_in (inT3 (List.mem_of_getElem? (i := 129) rfl)) rfl, sel_X7_takeWord.1, sel_X7_takeWord.2, rfl⟩
theorem d_X7_takeWord_0 : decode mX7_takeWord.2.2.1 0 = .ok (.iload_n 1, 1) := by decide +kernel
theorem d_X7_takeWord_1 : decode mX7_takeWord.2.2.1 1 = .ok (.istore_n 2, 1) := by decide +kernel
theorem d_X7_takeWord_2 : decode mX7_takeWord.2.2.1 2 = .ok (.iconst 0, 1) := by decide +kernel
theorem d_X7_takeWord_3 : decode mX7_takeWord.2.2.1 3 = .ok (.istore_n 3, 1) := by decide +kernel
theorem d_X7_takeWord_4 : decode mX7_takeWord.2.2.1 4 = .ok (.iload_n 2, 1) := by decide +kernel
theorem d_X7_takeWord_5 : decode mX7_takeWord.2.2.1 5 = .ok (.aload_n 0, 1) := by decide +kernel
theorem d_X7_takeWord_6 : decode mX7_takeWord.2.2.1 6 = .ok (.getfield 25, 3) := by decide +kernel
theorem d_X7_takeWord_9 : decode mX7_takeWord.2.2.1 9 = .ok (.if_icmp .ge 44, 3) := by decide +kernel
theorem d_X7_takeWord_12 : decode mX7_takeWord.2.2.1 12 = .ok (.iload_n 2, 1) := by decide +kernel
theorem d_X7_takeWord_13 : decode mX7_takeWord.2.2.1 13 = .ok (.iload_n 1, 1) := by decide +kernel
theorem d_X7_takeWord_14 : decode mX7_takeWord.2.2.1 14 = .ok (.bipush 6, 2) := by decide +kernel
theorem d_X7_takeWord_16 : decode mX7_takeWord.2.2.1 16 = .ok (.iadd, 1) := by decide +kernel
theorem d_X7_takeWord_17 : decode mX7_takeWord.2.2.1 17 = .ok (.if_icmp .gt 36, 3) := by decide +kernel
theorem d_X7_takeWord_20 : decode mX7_takeWord.2.2.1 20 = .ok (.aload_n 0, 1) := by decide +kernel
theorem d_X7_takeWord_21 : decode mX7_takeWord.2.2.1 21 = .ok (.getfield 21, 3) := by decide +kernel
theorem d_X7_takeWord_24 : decode mX7_takeWord.2.2.1 24 = .ok (.iload_n 2, 1) := by decide +kernel
theorem d_X7_takeWord_25 : decode mX7_takeWord.2.2.1 25 = .ok (.baload, 1) := by decide +kernel
theorem d_X7_takeWord_26 : decode mX7_takeWord.2.2.1 26 = .ok (.invokestatic 44, 3) := by decide +kernel
theorem d_X7_takeWord_29 : decode mX7_takeWord.2.2.1 29 = .ok (.ifCond .eq 24, 3) := by decide +kernel
theorem d_X7_takeWord_32 : decode mX7_takeWord.2.2.1 32 = .ok (.iload_n 3, 1) := by decide +kernel
theorem d_X7_takeWord_33 : decode mX7_takeWord.2.2.1 33 = .ok (.bipush 27, 2) := by decide +kernel
theorem d_X7_takeWord_35 : decode mX7_takeWord.2.2.1 35 = .ok (.imul, 1) := by decide +kernel
theorem d_X7_takeWord_36 : decode mX7_takeWord.2.2.1 36 = .ok (.aload_n 0, 1) := by decide +kernel
theorem d_X7_takeWord_37 : decode mX7_takeWord.2.2.1 37 = .ok (.getfield 21, 3) := by decide +kernel
theorem d_X7_takeWord_40 : decode mX7_takeWord.2.2.1 40 = .ok (.iload_n 2, 1) := by decide +kernel
theorem d_X7_takeWord_41 : decode mX7_takeWord.2.2.1 41 = .ok (.baload, 1) := by decide +kernel
theorem d_X7_takeWord_42 : decode mX7_takeWord.2.2.1 42 = .ok (.iadd, 1) := by decide +kernel
theorem d_X7_takeWord_43 : decode mX7_takeWord.2.2.1 43 = .ok (.bipush 96, 2) := by decide +kernel
theorem d_X7_takeWord_45 : decode mX7_takeWord.2.2.1 45 = .ok (.isub, 1) := by decide +kernel
theorem d_X7_takeWord_46 : decode mX7_takeWord.2.2.1 46 = .ok (.istore_n 3, 1) := by decide +kernel
theorem d_X7_takeWord_47 : decode mX7_takeWord.2.2.1 47 = .ok (.iinc 2 1, 3) := by decide +kernel
theorem d_X7_takeWord_50 : decode mX7_takeWord.2.2.1 50 = .ok (.goto (-46), 3) := by decide +kernel
theorem d_X7_takeWord_53 : decode mX7_takeWord.2.2.1 53 = .ok (.iload_n 2, 1) := by decide +kernel
theorem d_X7_takeWord_54 : decode mX7_takeWord.2.2.1 54 = .ok (.iload_n 1, 1) := by decide +kernel
theorem d_X7_takeWord_55 : decode mX7_takeWord.2.2.1 55 = .ok (.isub, 1) := by decide +kernel
theorem d_X7_takeWord_56 : decode mX7_takeWord.2.2.1 56 = .ok (.bipush 6, 2) := by decide +kernel
theorem d_X7_takeWord_58 : decode mX7_takeWord.2.2.1 58 = .ok (.if_icmp .le 15, 3) := by decide +kernel
theorem d_X7_takeWord_73 : decode mX7_takeWord.2.2.1 73 = .ok (.aload_n 0, 1) := by decide +kernel
theorem d_X7_takeWord_74 : decode mX7_takeWord.2.2.1 74 = .ok (.iload_n 1, 1) := by decide +kernel
theorem d_X7_takeWord_75 : decode mX7_takeWord.2.2.1 75 = .ok (.iload_n 2, 1) := by decide +kernel
theorem d_X7_takeWord_76 : decode mX7_takeWord.2.2.1 76 = .ok (.invokevirtual 64, 3) := by decide +kernel
def mX7_ownWord : MD := (7, yX7_ownWord, cX7_ownWord, 4, some .int)
theorem sel_X7_ownWord : Cond.instanceMethod mX7_ownWord.2.1 ∈ tblG ∧ Cond.selects mX7_ownWord.2.1.cls mX7_ownWord.2.1 mX7_ownWord.2.1 ∈ tblG := ⟨tblG_in (inT3 (List.mem_of_getElem? (i := 135) rfl)) rfl, tblG_in (inP1 (q := (mX7_ownWord.2.1, 6)) (List.mem_of_getElem? (i := 5) rfl)) rfl⟩
theorem s_7_64 : e_siteV 7 64 mX7_ownWord 7 := ⟨tblG_in (inT3 (List.mem_of_getElem? (i := 133) rfl)) rfl, sel_X7_ownWord.1, sel_X7_ownWord.2, rfl⟩
theorem d_X7_ownWord_0 : decode mX7_ownWord.2.2.1 0 = .ok (.iconst 0, 1) := by decide +kernel
theorem d_X7_ownWord_1 : decode mX7_ownWord.2.2.1 1 = .ok (.istore_n 3, 1) := by decide +kernel
theorem d_X7_ownWord_2 : decode mX7_ownWord.2.2.1 2 = .ok (.iload_n 3, 1) := by decide +kernel
theorem d_X7_ownWord_3 : decode mX7_ownWord.2.2.1 3 = .ok (.bipush 27, 2) := by decide +kernel
theorem d_X7_ownWord_5 : decode mX7_ownWord.2.2.1 5 = .ok (.if_icmp .ge 21, 3) := by decide +kernel
theorem d_X7_ownWord_8 : decode mX7_ownWord.2.2.1 8 = .ok (.aload_n 0, 1) := by decide +kernel
theorem d_X7_ownWord_9 : decode mX7_ownWord.2.2.1 9 = .ok (.iload_n 3, 1) := by decide +kernel
theorem d_X7_ownWord_10 : decode mX7_ownWord.2.2.1 10 = .ok (.iload_n 1, 1) := by decide +kernel
theorem d_X7_ownWord_11 : decode mX7_ownWord.2.2.1 11 = .ok (.iload_n 2, 1) := by decide +kernel
theorem d_X7_ownWord_12 : decode mX7_ownWord.2.2.1 12 = .ok (.invokevirtual 68, 3) := by decide +kernel
def mX7_isOwn : MD := (7, yX7_isOwn, cX7_isOwn, 6, some .boolean)
theorem sel_X7_isOwn : Cond.instanceMethod mX7_isOwn.2.1 ∈ tblG ∧ Cond.selects mX7_isOwn.2.1.cls mX7_isOwn.2.1 mX7_isOwn.2.1 ∈ tblG := ⟨tblG_in (inT3 (List.mem_of_getElem? (i := 139) rfl)) rfl, tblG_in (inP1 (q := (mX7_isOwn.2.1, 6)) (List.mem_of_getElem? (i := 6) rfl)) rfl⟩
theorem s_7_68 : e_siteV 7 68 mX7_isOwn 7 := ⟨tblG_in (inT3 (List.mem_of_getElem? (i := 137) rfl)) rfl, sel_X7_isOwn.1, sel_X7_isOwn.2, rfl⟩
theorem d_X7_isOwn_0 : decode mX7_isOwn.2.2.1 0 = .ok (.iconst 0, 1) := by decide +kernel
theorem d_X7_isOwn_1 : decode mX7_isOwn.2.2.1 1 = .ok (.istore 4, 2) := by decide +kernel
theorem d_X7_isOwn_3 : decode mX7_isOwn.2.2.1 3 = .ok (.iload 4, 2) := by decide +kernel
theorem d_X7_isOwn_5 : decode mX7_isOwn.2.2.1 5 = .ok (.bipush 6, 2) := by decide +kernel
theorem d_X7_isOwn_7 : decode mX7_isOwn.2.2.1 7 = .ok (.if_icmp .ge 52, 3) := by decide +kernel
theorem d_X7_isOwn_10 : decode mX7_isOwn.2.2.1 10 = .ok (.iload_n 2, 1) := by decide +kernel
theorem d_X7_isOwn_11 : decode mX7_isOwn.2.2.1 11 = .ok (.iload 4, 2) := by decide +kernel
theorem d_X7_isOwn_13 : decode mX7_isOwn.2.2.1 13 = .ok (.iadd, 1) := by decide +kernel
theorem d_X7_isOwn_14 : decode mX7_isOwn.2.2.1 14 = .ok (.iload_n 3, 1) := by decide +kernel
theorem d_X7_isOwn_15 : decode mX7_isOwn.2.2.1 15 = .ok (.if_icmp .ge 15, 3) := by decide +kernel
theorem d_X7_isOwn_30 : decode mX7_isOwn.2.2.1 30 = .ok (.bipush 32, 2) := by decide +kernel
theorem d_X7_isOwn_18 : decode mX7_isOwn.2.2.1 18 = .ok (.aload_n 0, 1) := by decide +kernel
theorem d_X7_isOwn_19 : decode mX7_isOwn.2.2.1 19 = .ok (.getfield 21, 3) := by decide +kernel
theorem d_X7_isOwn_22 : decode mX7_isOwn.2.2.1 22 = .ok (.iload_n 2, 1) := by decide +kernel
theorem d_X7_isOwn_23 : decode mX7_isOwn.2.2.1 23 = .ok (.iload 4, 2) := by decide +kernel
theorem d_X7_isOwn_25 : decode mX7_isOwn.2.2.1 25 = .ok (.iadd, 1) := by decide +kernel
theorem d_X7_isOwn_26 : decode mX7_isOwn.2.2.1 26 = .ok (.baload, 1) := by decide +kernel
theorem d_X7_isOwn_27 : decode mX7_isOwn.2.2.1 27 = .ok (.goto 5, 3) := by decide +kernel
theorem d_X7_isOwn_32 : decode mX7_isOwn.2.2.1 32 = .ok (.istore 5, 2) := by decide +kernel
theorem d_X7_isOwn_34 : decode mX7_isOwn.2.2.1 34 = .ok (.ldc 72, 2) := by decide +kernel
theorem d_X7_isOwn_36 : decode mX7_isOwn.2.2.1 36 = .ok (.iload_n 1, 1) := by decide +kernel
theorem d_X7_isOwn_37 : decode mX7_isOwn.2.2.1 37 = .ok (.bipush 6, 2) := by decide +kernel
theorem d_X7_isOwn_39 : decode mX7_isOwn.2.2.1 39 = .ok (.imul, 1) := by decide +kernel
theorem d_X7_isOwn_40 : decode mX7_isOwn.2.2.1 40 = .ok (.iload 4, 2) := by decide +kernel
theorem d_X7_isOwn_42 : decode mX7_isOwn.2.2.1 42 = .ok (.iadd, 1) := by decide +kernel
theorem d_X7_isOwn_43 : decode mX7_isOwn.2.2.1 43 = .ok (.invokevirtual 74, 3) := by decide +kernel
def mJ0_charAt_5068e : MD := (19, yJ0_charAt_5068e, cJ0_charAt_5068e, 2, some .char)
theorem sel_J0_charAt_5068e : Cond.instanceMethod mJ0_charAt_5068e.2.1 ∈ tblG ∧ Cond.selects mJ0_charAt_5068e.2.1.cls mJ0_charAt_5068e.2.1 mJ0_charAt_5068e.2.1 ∈ tblG := ⟨tblG_in (inT3 (List.mem_of_getElem? (i := 143) rfl)) rfl, tblG_in (inT3 (List.mem_of_getElem? (i := 144) rfl)) rfl⟩
theorem sx_7_74 : e_siteX 7 74 mJ0_charAt_5068e := ⟨tblG_in (inT3 (List.mem_of_getElem? (i := 142) rfl)) rfl, sel_J0_charAt_5068e.1, sel_J0_charAt_5068e.2⟩
theorem d_J0_charAt_5068e_0 : decode mJ0_charAt_5068e.2.2.1 0 = .ok (.aload_n 0, 1) := by decide +kernel
theorem d_J0_charAt_5068e_1 : decode mJ0_charAt_5068e.2.2.1 1 = .ok (.invokevirtual 492, 3) := by decide +kernel
theorem d_J0_charAt_5068e_4 : decode mJ0_charAt_5068e.2.2.1 4 = .ok (.ifCond .eq 12, 3) := by decide +kernel
theorem d_J0_charAt_5068e_7 : decode mJ0_charAt_5068e.2.2.1 7 = .ok (.aload_n 0, 1) := by decide +kernel
theorem d_J0_charAt_5068e_8 : decode mJ0_charAt_5068e.2.2.1 8 = .ok (.getfield 9, 3) := by decide +kernel
theorem d_J0_charAt_5068e_11 : decode mJ0_charAt_5068e.2.2.1 11 = .ok (.iload_n 1, 1) := by decide +kernel
theorem d_J0_charAt_5068e_12 : decode mJ0_charAt_5068e.2.2.1 12 = .ok (.invokestatic 495, 3) := by decide +kernel
def mJ1_charAt_3b067 : MD := (20, yJ1_charAt_3b067, cJ1_charAt_3b067, 2, some .char)
theorem s_19_495 : e_siteS 19 495 mJ1_charAt_3b067 := ⟨tblG_in (inT3 (List.mem_of_getElem? (i := 152) rfl)) rfl, tblG_in (inT3 (List.mem_of_getElem? (i := 153) rfl)) rfl⟩
theorem d_J1_charAt_3b067_0 : decode mJ1_charAt_3b067.2.2.1 0 = .ok (.iload_n 1, 1) := by decide +kernel
theorem d_J1_charAt_3b067_1 : decode mJ1_charAt_3b067.2.2.1 1 = .ok (.aload_n 0, 1) := by decide +kernel
theorem d_J1_charAt_3b067_2 : decode mJ1_charAt_3b067.2.2.1 2 = .ok (.arraylength, 1) := by decide +kernel
theorem d_J1_charAt_3b067_3 : decode mJ1_charAt_3b067.2.2.1 3 = .ok (.invokestatic 9, 3) := by decide +kernel
def mJ0_checkIndex_df160 : MD := (19, yJ0_checkIndex_df160, cJ0_checkIndex_df160, 2, none)
theorem s_20_9 : e_siteS 20 9 mJ0_checkIndex_df160 := ⟨tblG_in (inT3 (List.mem_of_getElem? (i := 155) rfl)) rfl, tblG_in (inT3 (List.mem_of_getElem? (i := 156) rfl)) rfl⟩
theorem d_J0_checkIndex_df160_0 : decode mJ0_checkIndex_df160.2.2.1 0 = .ok (.iload_n 0, 1) := by decide +kernel
theorem d_J0_checkIndex_df160_1 : decode mJ0_checkIndex_df160.2.2.1 1 = .ok (.iload_n 1, 1) := by decide +kernel
theorem d_J0_checkIndex_df160_2 : decode mJ0_checkIndex_df160.2.2.1 2 = .ok (.getstatic 1053, 3) := by decide +kernel
theorem sl_19_1053 : Cond.fieldLink (e_cn 19) 1053 "jdk/internal/util/Preconditions" "SIOOBE_FORMATTER" "Ljava/util/function/BiFunction;" ∈ tblG := tblG_in (inT3 (List.mem_of_getElem? (i := 158) rfl)) rfl
theorem d_J0_checkIndex_df160_5 : decode mJ0_checkIndex_df160.2.2.1 5 = .ok (.invokestatic 1059, 3) := by decide +kernel
theorem s_19_1059 : e_siteS 19 1059 mJ3_checkIndex_8e157 := ⟨tblG_in (inT3 (List.mem_of_getElem? (i := 160) rfl)) rfl, tblG_in (inT3 (List.mem_of_getElem? (i := 161) rfl)) rfl⟩
theorem ini_23 : Cond.initialized "jdk/internal/util/Preconditions" ∈ tblG := tblG_in (inT1 (List.mem_of_getElem? (i := 17) rfl)) rfl
theorem ok_J3_checkIndex_8e157 : e_m mJ3_checkIndex_8e157 3 := ⟨tblG_in (inT3 (List.mem_of_getElem? (i := 162) rfl)) rfl, plainFor_of_name (by decide), rfl, ini_23, by decide +kernel, by decide⟩
theorem d_J0_checkIndex_df160_8 : decode mJ0_checkIndex_df160.2.2.1 8 = .ok (.pop, 1) := by decide +kernel
theorem d_J0_checkIndex_df160_9 : decode mJ0_checkIndex_df160.2.2.1 9 = .ok (.return_, 1) := by decide +kernel
theorem ok_J0_checkIndex_df160 : e_m mJ0_checkIndex_df160 2 := ⟨tblG_in (inT3 (List.mem_of_getElem? (i := 157) rfl)) rfl, plainFor_of_name (by decide), rfl, ini_19, by decide +kernel, by decide⟩
theorem d_J1_charAt_3b067_6 : decode mJ1_charAt_3b067.2.2.1 6 = .ok (.aload_n 0, 1) := by decide +kernel
theorem d_J1_charAt_3b067_7 : decode mJ1_charAt_3b067.2.2.1 7 = .ok (.iload_n 1, 1) := by decide +kernel
theorem d_J1_charAt_3b067_8 : decode mJ1_charAt_3b067.2.2.1 8 = .ok (.baload, 1) := by decide +kernel
theorem d_J1_charAt_3b067_9 : decode mJ1_charAt_3b067.2.2.1 9 = .ok (.sipush 255, 3) := by decide +kernel
theorem d_J1_charAt_3b067_12 : decode mJ1_charAt_3b067.2.2.1 12 = .ok (.iand, 1) := by decide +kernel
theorem d_J1_charAt_3b067_13 : decode mJ1_charAt_3b067.2.2.1 13 = .ok (.i2c, 1) := by decide +kernel
theorem d_J1_charAt_3b067_14 : decode mJ1_charAt_3b067.2.2.1 14 = .ok (.ireturn, 1) := by decide +kernel
theorem ok_J1_charAt_3b067 : e_m mJ1_charAt_3b067 2 := ⟨tblG_in (inT3 (List.mem_of_getElem? (i := 154) rfl)) rfl, plainFor_of_name (by decide), rfl, ini_20, by decide +kernel, by decide⟩
theorem d_J0_charAt_5068e_15 : decode mJ0_charAt_5068e.2.2.1 15 = .ok (.ireturn, 1) := by decide +kernel
theorem ok_J0_charAt_5068e : e_m mJ0_charAt_5068e 1 := ⟨tblG_in (inT3 (List.mem_of_getElem? (i := 145) rfl)) rfl, plainFor_of_name (by decide), rfl, ini_19, by decide +kernel, by decide⟩
theorem d_X7_isOwn_46 : decode mX7_isOwn.2.2.1 46 = .ok (.iload 5, 2) := by decide +kernel
theorem d_X7_isOwn_48 : decode mX7_isOwn.2.2.1 48 = .ok (.if_icmp .eq 5, 3) := by decide +kernel
theorem d_X7_isOwn_53 : decode mX7_isOwn.2.2.1 53 = .ok (.iinc 4 1, 3) := by decide +kernel
theorem d_X7_isOwn_56 : decode mX7_isOwn.2.2.1 56 = .ok (.goto (-53), 3) := by decide +kernel
theorem d_X7_isOwn_51 : decode mX7_isOwn.2.2.1 51 = .ok (.iconst 0, 1) := by decide +kernel
theorem d_X7_isOwn_52 : decode mX7_isOwn.2.2.1 52 = .ok (.ireturn, 1) := by decide +kernel
theorem d_X7_isOwn_59 : decode mX7_isOwn.2.2.1 59 = .ok (.iconst 1, 1) := by decide +kernel
theorem d_X7_isOwn_60 : decode mX7_isOwn.2.2.1 60 = .ok (.ireturn, 1) := by decide +kernel
theorem ok_X7_isOwn : e_m mX7_isOwn 3 := ⟨tblG_in (inT3 (List.mem_of_getElem? (i := 140) rfl)) rfl, plainFor_of_name (by decide), rfl, ini_7, by decide +kernel, by decide⟩
theorem d_X7_ownWord_15 : decode mX7_ownWord.2.2.1 15 = .ok (.ifCond .eq 5, 3) := by decide +kernel
theorem d_X7_ownWord_20 : decode mX7_ownWord.2.2.1 20 = .ok (.iinc 3 1, 3) := by decide +kernel
theorem d_X7_ownWord_23 : decode mX7_ownWord.2.2.1 23 = .ok (.goto (-21), 3) := by decide +kernel
theorem d_X7_ownWord_18 : decode mX7_ownWord.2.2.1 18 = .ok (.iload_n 3, 1) := by decide +kernel
theorem d_X7_ownWord_19 : decode mX7_ownWord.2.2.1 19 = .ok (.ireturn, 1) := by decide +kernel
theorem d_X7_ownWord_26 : decode mX7_ownWord.2.2.1 26 = .ok (.iconst (-1), 1) := by decide +kernel
theorem d_X7_ownWord_27 : decode mX7_ownWord.2.2.1 27 = .ok (.ireturn, 1) := by decide +kernel
theorem ok_X7_ownWord : e_m mX7_ownWord 2 := ⟨tblG_in (inT3 (List.mem_of_getElem? (i := 136) rfl)) rfl, plainFor_of_name (by decide), rfl, ini_7, by decide +kernel, by decide⟩
theorem d_X7_takeWord_79 : decode mX7_takeWord.2.2.1 79 = .ok (.istore 4, 2) := by decide +kernel
theorem d_X7_takeWord_81 : decode mX7_takeWord.2.2.1 81 = .ok (.iload 4, 2) := by decide +kernel
theorem d_X7_takeWord_83 : decode mX7_takeWord.2.2.1 83 = .ok (.ifCond .lt 13, 3) := by decide +kernel
theorem d_X7_takeWord_96 : decode mX7_takeWord.2.2.1 96 = .ok (.aload_n 0, 1) := by decide +kernel
theorem d_X7_takeWord_97 : decode mX7_takeWord.2.2.1 97 = .ok (.iconst 3, 1) := by decide +kernel
theorem d_X7_takeWord_98 : decode mX7_takeWord.2.2.1 98 = .ok (.iload_n 1, 1) := by decide +kernel
theorem d_X7_takeWord_99 : decode mX7_takeWord.2.2.1 99 = .ok (.iload_n 3, 1) := by decide +kernel
theorem d_X7_takeWord_100 : decode mX7_takeWord.2.2.1 100 = .ok (.iload_n 2, 1) := by decide +kernel
theorem d_X7_takeWord_101 : decode mX7_takeWord.2.2.1 101 = .ok (.invokevirtual 40, 3) := by decide +kernel
theorem d_X7_takeWord_104 : decode mX7_takeWord.2.2.1 104 = .ok (.ireturn, 1) := by decide +kernel
theorem d_X7_takeWord_86 : decode mX7_takeWord.2.2.1 86 = .ok (.aload_n 0, 1) := by decide +kernel
theorem d_X7_takeWord_87 : decode mX7_takeWord.2.2.1 87 = .ok (.iconst 2, 1) := by decide +kernel
theorem d_X7_takeWord_88 : decode mX7_takeWord.2.2.1 88 = .ok (.iload_n 1, 1) := by decide +kernel
