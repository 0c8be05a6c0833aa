theorem d_J1_canEncode_9a6ad_1 : decode mJ1_canEncode_9a6ad.2.2.1 1 = .ok (.ifCond .lt 14, 3) := by decide +kernel
theorem d_J1_canEncode_9a6ad_4 : decode mJ1_canEncode_9a6ad.2.2.1 4 = .ok (.iload_n 0, 1) := by decide +kernel
theorem d_J1_canEncode_9a6ad_5 : decode mJ1_canEncode_9a6ad.2.2.1 5 = .ok (.sipush 255, 3) := by decide +kernel
theorem d_J1_canEncode_9a6ad_8 : decode mJ1_canEncode_9a6ad.2.2.1 8 = .ok (.if_icmp .gt 7, 3) := by decide +kernel
theorem d_J1_canEncode_9a6ad_11 : decode mJ1_canEncode_9a6ad.2.2.1 11 = .ok (.iconst 1, 1) := by decide +kernel
theorem d_J1_canEncode_9a6ad_12 : decode mJ1_canEncode_9a6ad.2.2.1 12 = .ok (.goto 4, 3) := by decide +kernel
theorem d_J1_canEncode_9a6ad_16 : decode mJ1_canEncode_9a6ad.2.2.1 16 = .ok (.ireturn, 1) := by decide +kernel
theorem ini_20 : Cond.initialized "java/lang/StringLatin1" ∈ tblG := tblG_in (inT1 (List.mem_of_getElem? (i := 16) rfl)) rfl
theorem ok_J1_canEncode_9a6ad : e_m mJ1_canEncode_9a6ad 1 := ⟨tblG_in (inT3 (List.mem_of_getElem? (i := 208) rfl)) rfl, plainFor_of_name (by decide), rfl, ini_20, by decide +kernel, by decide⟩
theorem d_J1_indexOf_4cfef_4 : decode mJ1_indexOf_4cfef.2.2.1 4 = .ok (.ifCond .ne 5, 3) := by decide +kernel
theorem d_J1_indexOf_4cfef_9 : decode mJ1_indexOf_4cfef.2.2.1 9 = .ok (.iload_n 2, 1) := by decide +kernel
theorem d_J1_indexOf_4cfef_10 : decode mJ1_indexOf_4cfef.2.2.1 10 = .ok (.iconst 0, 1) := by decide +kernel
theorem d_J1_indexOf_4cfef_11 : decode mJ1_indexOf_4cfef.2.2.1 11 = .ok (.invokestatic 92, 3) := by decide +kernel
theorem ml_20_92 : Cond.methodLink (e_cn 20) 92 Lib.Math.max.name ∈ tblG := tblG_in (inT3 (List.mem_of_getElem? (i := 209) rfl)) rfl
theorem d_J1_indexOf_4cfef_14 : decode mJ1_indexOf_4cfef.2.2.1 14 = .ok (.istore_n 2, 1) := by decide +kernel
theorem d_J1_indexOf_4cfef_15 : decode mJ1_indexOf_4cfef.2.2.1 15 = .ok (.iload_n 3, 1) := by decide +kernel
theorem d_J1_indexOf_4cfef_16 : decode mJ1_indexOf_4cfef.2.2.1 16 = .ok (.aload_n 0, 1) := by decide +kernel
theorem d_J1_indexOf_4cfef_17 : decode mJ1_indexOf_4cfef.2.2.1 17 = .ok (.arraylength, 1) := by decide +kernel
theorem d_J1_indexOf_4cfef_18 : decode mJ1_indexOf_4cfef.2.2.1 18 = .ok (.invokestatic 38, 3) := by decide +kernel
theorem ml_20_38 : Cond.methodLink (e_cn 20) 38 Lib.Math.min.name ∈ tblG := tblG_in (inT3 (List.mem_of_getElem? (i := 212) rfl)) rfl
theorem d_J1_indexOf_4cfef_21 : decode mJ1_indexOf_4cfef.2.2.1 21 = .ok (.istore_n 3, 1) := by decide +kernel
theorem d_J1_indexOf_4cfef_22 : decode mJ1_indexOf_4cfef.2.2.1 22 = .ok (.iload_n 2, 1) := by decide +kernel
theorem d_J1_indexOf_4cfef_23 : decode mJ1_indexOf_4cfef.2.2.1 23 = .ok (.iload_n 3, 1) := by decide +kernel
theorem d_J1_indexOf_4cfef_24 : decode mJ1_indexOf_4cfef.2.2.1 24 = .ok (.if_icmp .lt 5, 3) := by decide +kernel
theorem d_J1_indexOf_4cfef_29 : decode mJ1_indexOf_4cfef.2.2.1 29 = .ok (.aload_n 0, 1) := by decide +kernel
theorem d_J1_indexOf_4cfef_30 : decode mJ1_indexOf_4cfef.2.2.1 30 = .ok (.iload_n 1, 1) := by decide +kernel
theorem d_J1_indexOf_4cfef_31 : decode mJ1_indexOf_4cfef.2.2.1 31 = .ok (.iload_n 2, 1) := by decide +kernel
theorem d_J1_indexOf_4cfef_32 : decode mJ1_indexOf_4cfef.2.2.1 32 = .ok (.iload_n 3, 1) := by decide +kernel
theorem d_J1_indexOf_4cfef_33 : decode mJ1_indexOf_4cfef.2.2.1 33 = .ok (.invokestatic 95, 3) := by decide +kernel
def mJ1_indexOfChar_4cfef : MD := (20, yJ1_indexOfChar_4cfef, cJ1_indexOfChar_4cfef, 6, some .int)
theorem s_20_95 : e_siteS 20 95 mJ1_indexOfChar_4cfef := ⟨tblG_in (inT3 (List.mem_of_getElem? (i := 215) rfl)) rfl, tblG_in (inT3 (List.mem_of_getElem? (i := 216) rfl)) rfl⟩
theorem d_J1_indexOfChar_4cfef_0 : decode mJ1_indexOfChar_4cfef.2.2.1 0 = .ok (.iload_n 1, 1) := by decide +kernel
theorem d_J1_indexOfChar_4cfef_1 : decode mJ1_indexOfChar_4cfef.2.2.1 1 = .ok (.i2b, 1) := by decide +kernel
theorem d_J1_indexOfChar_4cfef_2 : decode mJ1_indexOfChar_4cfef.2.2.1 2 = .ok (.istore 4, 2) := by decide +kernel
theorem d_J1_indexOfChar_4cfef_4 : decode mJ1_indexOfChar_4cfef.2.2.1 4 = .ok (.iload_n 2, 1) := by decide +kernel
theorem d_J1_indexOfChar_4cfef_5 : decode mJ1_indexOfChar_4cfef.2.2.1 5 = .ok (.istore 5, 2) := by decide +kernel
theorem d_J1_indexOfChar_4cfef_7 : decode mJ1_indexOfChar_4cfef.2.2.1 7 = .ok (.iload 5, 2) := by decide +kernel
theorem d_J1_indexOfChar_4cfef_9 : decode mJ1_indexOfChar_4cfef.2.2.1 9 = .ok (.iload_n 3, 1) := by decide +kernel
theorem d_J1_indexOfChar_4cfef_10 : decode mJ1_indexOfChar_4cfef.2.2.1 10 = .ok (.if_icmp .ge 21, 3) := by decide +kernel
theorem d_J1_indexOfChar_4cfef_13 : decode mJ1_indexOfChar_4cfef.2.2.1 13 = .ok (.aload_n 0, 1) := by decide +kernel
theorem d_J1_indexOfChar_4cfef_14 : decode mJ1_indexOfChar_4cfef.2.2.1 14 = .ok (.iload 5, 2) := by decide +kernel
theorem d_J1_indexOfChar_4cfef_16 : decode mJ1_indexOfChar_4cfef.2.2.1 16 = .ok (.baload, 1) := by decide +kernel
theorem d_J1_indexOfChar_4cfef_17 : decode mJ1_indexOfChar_4cfef.2.2.1 17 = .ok (.iload 4, 2) := by decide +kernel
theorem d_J1_indexOfChar_4cfef_19 : decode mJ1_indexOfChar_4cfef.2.2.1 19 = .ok (.if_icmp .ne 6, 3) := by decide +kernel
theorem d_J1_indexOfChar_4cfef_25 : decode mJ1_indexOfChar_4cfef.2.2.1 25 = .ok (.iinc 5 1, 3) := by decide +kernel
theorem d_J1_indexOfChar_4cfef_28 : decode mJ1_indexOfChar_4cfef.2.2.1 28 = .ok (.goto (-21), 3) := by decide +kernel
theorem d_J1_indexOfChar_4cfef_22 : decode mJ1_indexOfChar_4cfef.2.2.1 22 = .ok (.iload 5, 2) := by decide +kernel
theorem d_J1_indexOfChar_4cfef_24 : decode mJ1_indexOfChar_4cfef.2.2.1 24 = .ok (.ireturn, 1) := by decide +kernel
theorem d_J1_indexOfChar_4cfef_31 : decode mJ1_indexOfChar_4cfef.2.2.1 31 = .ok (.iconst (-1), 1) := by decide +kernel
theorem d_J1_indexOfChar_4cfef_32 : decode mJ1_indexOfChar_4cfef.2.2.1 32 = .ok (.ireturn, 1) := by decide +kernel
theorem ok_J1_indexOfChar_4cfef : e_m mJ1_indexOfChar_4cfef 4 := ⟨tblG_in (inT3 (List.mem_of_getElem? (i := 217) rfl)) rfl, plainFor_of_name (by decide), rfl, ini_20, by decide +kernel, by decide⟩
theorem d_J1_indexOf_4cfef_36 : decode mJ1_indexOf_4cfef.2.2.1 36 = .ok (.ireturn, 1) := by decide +kernel
theorem d_J1_indexOf_4cfef_27 : decode mJ1_indexOf_4cfef.2.2.1 27 = .ok (.iconst (-1), 1) := by decide +kernel
theorem d_J1_indexOf_4cfef_28 : decode mJ1_indexOf_4cfef.2.2.1 28 = .ok (.ireturn, 1) := by decide +kernel
theorem ok_J1_indexOf_4cfef : e_m mJ1_indexOf_4cfef 4 := ⟨tblG_in (inT3 (List.mem_of_getElem? (i := 205) rfl)) rfl, plainFor_of_name (by decide), rfl, ini_20, by decide +kernel, by decide⟩
theorem d_J0_indexOf_7cf53_20 : decode mJ0_indexOf_7cf53.2.2.1 20 = .ok (.goto 16, 3) := by decide +kernel
theorem d_J0_indexOf_7cf53_36 : decode mJ0_indexOf_7cf53.2.2.1 36 = .ok (.ireturn, 1) := by decide +kernel
theorem ok_J0_indexOf_7cf53 : e_m mJ0_indexOf_7cf53 2 := ⟨tblG_in (inT3 (List.mem_of_getElem? (i := 194) rfl)) rfl, plainFor_of_name (by decide), rfl, ini_19, by decide +kernel, by decide⟩
theorem d_J0_indexOf_0f7a4_6 : decode mJ0_indexOf_0f7a4.2.2.1 6 = .ok (.ireturn, 1) := by decide +kernel
theorem ok_J0_indexOf_0f7a4 : e_m mJ0_indexOf_0f7a4 1 := ⟨tblG_in (inT3 (List.mem_of_getElem? (i := 190) rfl)) rfl, plainFor_of_name (by decide), rfl, ini_19, by decide +kernel, by decide⟩
theorem d_X7_takeOne_83 : decode mX7_takeOne.2.2.1 83 = .ok (.ifCond .lt 14, 3) := by decide +kernel
theorem d_X7_takeOne_86 : decode mX7_takeOne.2.2.1 86 = .ok (.aload_n 0, 1) := by decide +kernel
theorem d_X7_takeOne_87 : decode mX7_takeOne.2.2.1 87 = .ok (.iconst 5, 1) := by decide +kernel
theorem d_X7_takeOne_88 : decode mX7_takeOne.2.2.1 88 = .ok (.iload_n 1, 1) := by decide +kernel
theorem d_X7_takeOne_89 : decode mX7_takeOne.2.2.1 89 = .ok (.iload_n 3, 1) := by decide +kernel
theorem d_X7_takeOne_90 : decode mX7_takeOne.2.2.1 90 = .ok (.iload_n 1, 1) := by decide +kernel
theorem d_X7_takeOne_91 : decode mX7_takeOne.2.2.1 91 = .ok (.iconst 1, 1) := by decide +kernel
theorem d_X7_takeOne_92 : decode mX7_takeOne.2.2.1 92 = .ok (.iadd, 1) := by decide +kernel
theorem d_X7_takeOne_93 : decode mX7_takeOne.2.2.1 93 = .ok (.invokevirtual 40, 3) := by decide +kernel
def mX7_add : MD := (7, yX7_add, cX7_add, 5, some .int)
theorem sel_X7_add : Cond.instanceMethod mX7_add.2.1 ∈ tblG ∧ Cond.selects mX7_add.2.1.cls mX7_add.2.1 mX7_add.2.1 ∈ tblG := ⟨tblG_in (inT3 (List.mem_of_getElem? (i := 121) rfl)) rfl, tblG_in (inP1 (q := (mX7_add.2.1, 6)) (List.mem_of_getElem? (i := 3) rfl)) rfl⟩
theorem s_7_40 : e_siteV 7 40 mX7_add 7 := ⟨tblG_in (inT3 (List.mem_of_getElem? (i := 119) rfl)) rfl, sel_X7_add.1, sel_X7_add.2, rfl⟩
theorem d_X7_add_0 : decode mX7_add.2.2.1 0 = .ok (.aload_n 0, 1) := by decide +kernel
theorem d_X7_add_1 : decode mX7_add.2.2.1 1 = .ok (.getfield 29, 3) := by decide +kernel
theorem d_X7_add_4 : decode mX7_add.2.2.1 4 = .ok (.aload_n 0, 1) := by decide +kernel
theorem d_X7_add_5 : decode mX7_add.2.2.1 5 = .ok (.getfield 9, 3) := by decide +kernel
theorem d_X7_add_8 : decode mX7_add.2.2.1 8 = .ok (.arraylength, 1) := by decide +kernel
theorem d_X7_add_9 : decode mX7_add.2.2.1 9 = .ok (.if_icmp .ge 43, 3) := by decide +kernel
theorem d_X7_add_52 : decode mX7_add.2.2.1 52 = .ok (.iload 4, 2) := by decide +kernel
theorem d_X7_add_54 : decode mX7_add.2.2.1 54 = .ok (.ireturn, 1) := by decide +kernel
theorem d_X7_add_12 : decode mX7_add.2.2.1 12 = .ok (.aload_n 0, 1) := by decide +kernel
theorem d_X7_add_13 : decode mX7_add.2.2.1 13 = .ok (.getfield 9, 3) := by decide +kernel
theorem d_X7_add_16 : decode mX7_add.2.2.1 16 = .ok (.aload_n 0, 1) := by decide +kernel
theorem d_X7_add_17 : decode mX7_add.2.2.1 17 = .ok (.getfield 29, 3) := by decide +kernel
theorem d_X7_add_20 : decode mX7_add.2.2.1 20 = .ok (.iload_n 1, 1) := by decide +kernel
theorem d_X7_add_21 : decode mX7_add.2.2.1 21 = .ok (.iastore, 1) := by decide +kernel
theorem d_X7_add_22 : decode mX7_add.2.2.1 22 = .ok (.aload_n 0, 1) := by decide +kernel
theorem d_X7_add_23 : decode mX7_add.2.2.1 23 = .ok (.getfield 15, 3) := by decide +kernel
theorem d_X7_add_26 : decode mX7_add.2.2.1 26 = .ok (.aload_n 0, 1) := by decide +kernel
theorem d_X7_add_27 : decode mX7_add.2.2.1 27 = .ok (.getfield 29, 3) := by decide +kernel
theorem d_X7_add_30 : decode mX7_add.2.2.1 30 = .ok (.iload_n 2, 1) := by decide +kernel
theorem d_X7_add_31 : decode mX7_add.2.2.1 31 = .ok (.iastore, 1) := by decide +kernel
theorem d_X7_add_32 : decode mX7_add.2.2.1 32 = .ok (.aload_n 0, 1) := by decide +kernel
theorem d_X7_add_33 : decode mX7_add.2.2.1 33 = .ok (.getfield 18, 3) := by decide +kernel
theorem d_X7_add_36 : decode mX7_add.2.2.1 36 = .ok (.aload_n 0, 1) := by decide +kernel
theorem d_X7_add_37 : decode mX7_add.2.2.1 37 = .ok (.getfield 29, 3) := by decide +kernel
theorem d_X7_add_40 : decode mX7_add.2.2.1 40 = .ok (.iload_n 3, 1) := by decide +kernel
theorem d_X7_add_41 : decode mX7_add.2.2.1 41 = .ok (.iastore, 1) := by decide +kernel
theorem d_X7_add_42 : decode mX7_add.2.2.1 42 = .ok (.aload_n 0, 1) := by decide +kernel
theorem d_X7_add_43 : decode mX7_add.2.2.1 43 = .ok (.dup, 1) := by decide +kernel
theorem d_X7_add_44 : decode mX7_add.2.2.1 44 = .ok (.getfield 29, 3) := by decide +kernel
theorem d_X7_add_47 : decode mX7_add.2.2.1 47 = .ok (.iconst 1, 1) := by decide +kernel
theorem d_X7_add_48 : decode mX7_add.2.2.1 48 = .ok (.iadd, 1) := by decide +kernel
theorem d_X7_add_49 : decode mX7_add.2.2.1 49 = .ok (.putfield 29, 3) := by decide +kernel
theorem ok_X7_add : e_m mX7_add 4 := ⟨tblG_in (inT3 (List.mem_of_getElem? (i := 122) rfl)) rfl, plainFor_of_name (by decide), rfl, ini_7, by decide +kernel, by decide⟩
theorem d_X7_takeOne_96 : decode mX7_takeOne.2.2.1 96 = .ok (.ireturn, 1) := by decide +kernel
theorem d_X7_takeOne_8 : decode mX7_takeOne.2.2.1 8 = .ok (.aload_n 0, 1) := by decide +kernel
theorem d_X7_takeOne_9 : decode mX7_takeOne.2.2.1 9 = .ok (.iconst 0, 1) := by decide +kernel
theorem d_X7_takeOne_10 : decode mX7_takeOne.2.2.1 10 = .ok (.iload_n 1, 1) := by decide +kernel
theorem d_X7_takeOne_11 : decode mX7_takeOne.2.2.1 11 = .ok (.iconst 0, 1) := by decide +kernel
theorem d_X7_takeOne_12 : decode mX7_takeOne.2.2.1 12 = .ok (.iconst (-1), 1) := by decide +kernel
theorem d_X7_takeOne_13 : decode mX7_takeOne.2.2.1 13 = .ok (.invokevirtual 40, 3) := by decide +kernel
theorem d_X7_takeOne_16 : decode mX7_takeOne.2.2.1 16 = .ok (.ireturn, 1) := by decide +kernel
theorem d_X7_takeOne_97 : decode mX7_takeOne.2.2.1 97 = .ok (.aload_n 0, 1) := by decide +kernel
theorem d_X7_takeOne_98 : decode mX7_takeOne.2.2.1 98 = .ok (.iconst 1, 1) := by decide +kernel
theorem d_X7_takeOne_99 : decode mX7_takeOne.2.2.1 99 = .ok (.iload_n 1, 1) := by decide +kernel
theorem d_X7_takeOne_100 : decode mX7_takeOne.2.2.1 100 = .ok (.iconst 0, 1) := by decide +kernel
theorem d_X7_takeOne_101 : decode mX7_takeOne.2.2.1 101 = .ok (.iconst (-1), 1) := by decide +kernel
theorem d_X7_takeOne_102 : decode mX7_takeOne.2.2.1 102 = .ok (.invokevirtual 40, 3) := by decide +kernel
theorem d_X7_takeOne_105 : decode mX7_takeOne.2.2.1 105 = .ok (.ireturn, 1) := by decide +kernel
theorem d_X7_takeOne_38 : decode mX7_takeOne.2.2.1 38 = .ok (.iload_n 2, 1) := by decide +kernel
theorem d_X7_takeOne_39 : decode mX7_takeOne.2.2.1 39 = .ok (.ifCond .eq 12, 3) := by decide +kernel
theorem d_X7_takeOne_51 : decode mX7_takeOne.2.2.1 51 = .ok (.iload_n 3, 1) := by decide +kernel
theorem d_X7_takeOne_52 : decode mX7_takeOne.2.2.1 52 = .ok (.invokestatic 44, 3) := by decide +kernel
theorem d_X7_takeOne_55 : decode mX7_takeOne.2.2.1 55 = .ok (.ifCond .eq 11, 3) := by decide +kernel
theorem d_X7_takeOne_66 : decode mX7_takeOne.2.2.1 66 = .ok (.aload_n 0, 1) := by decide +kernel
theorem d_X7_takeOne_67 : decode mX7_takeOne.2.2.1 67 = .ok (.iload_n 1, 1) := by decide +kernel
theorem d_X7_takeOne_68 : decode mX7_takeOne.2.2.1 68 = .ok (.invokevirtual 54, 3) := by decide +kernel
def mX7_takeNumber : MD := (7, yX7_takeNumber, cX7_takeNumber, 4, some .int)
theorem sel_X7_takeNumber : Cond.instanceMethod mX7_takeNumber.2.1 ∈ tblG ∧ Cond.selects mX7_takeNumber.2.1.cls mX7_takeNumber.2.1 mX7_takeNumber.2.1 ∈ tblG := ⟨tblG_in (inT3 (List.mem_of_getElem? (i := 184) rfl)) rfl, tblG_in (inP1 (q := (mX7_takeNumber.2.1, 6)) (List.mem_of_getElem? (i := 7) rfl)) rfl⟩
theorem s_7_54 : e_siteV 7 54 mX7_takeNumber 7 := ⟨tblG_in (inT3 (List.mem_of_getElem? (i := 182) rfl)) rfl, sel_X7_takeNumber.1, sel_X7_takeNumber.2, rfl⟩
theorem d_X7_takeNumber_0 : decode mX7_takeNumber.2.2.1 0 = .ok (.iload_n 1, 1) := by decide +kernel
theorem d_X7_takeNumber_1 : decode mX7_takeNumber.2.2.1 1 = .ok (.istore_n 2, 1) := by decide +kernel
theorem d_X7_takeNumber_2 : decode mX7_takeNumber.2.2.1 2 = .ok (.iconst 0, 1) := by decide +kernel
theorem d_X7_takeNumber_3 : decode mX7_takeNumber.2.2.1 3 = .ok (.istore_n 3, 1) := by decide +kernel
theorem d_X7_takeNumber_4 : decode mX7_takeNumber.2.2.1 4 = .ok (.iload_n 2, 1) := by decide +kernel
theorem d_X7_takeNumber_5 : decode mX7_takeNumber.2.2.1 5 = .ok (.aload_n 0, 1) := by decide +kernel
theorem d_X7_takeNumber_6 : decode mX7_takeNumber.2.2.1 6 = .ok (.getfield 25, 3) := by decide +kernel
theorem d_X7_takeNumber_9 : decode mX7_takeNumber.2.2.1 9 = .ok (.if_icmp .ge 43, 3) := by decide +kernel
theorem d_X7_takeNumber_12 : decode mX7_takeNumber.2.2.1 12 = .ok (.iload_n 2, 1) := by decide +kernel
theorem d_X7_takeNumber_13 : decode mX7_takeNumber.2.2.1 13 = .ok (.iload_n 1, 1) := by decide +kernel
theorem d_X7_takeNumber_14 : decode mX7_takeNumber.2.2.1 14 = .ok (.iconst 4, 1) := by decide +kernel
theorem d_X7_takeNumber_15 : decode mX7_takeNumber.2.2.1 15 = .ok (.iadd, 1) := by decide +kernel
theorem d_X7_takeNumber_16 : decode mX7_takeNumber.2.2.1 16 = .ok (.if_icmp .gt 36, 3) := by decide +kernel
theorem d_X7_takeNumber_19 : decode mX7_takeNumber.2.2.1 19 = .ok (.aload_n 0, 1) := by decide +kernel
theorem d_X7_takeNumber_20 : decode mX7_takeNumber.2.2.1 20 = .ok (.getfield 21, 3) := by decide +kernel
theorem d_X7_takeNumber_23 : decode mX7_takeNumber.2.2.1 23 = .ok (.iload_n 2, 1) := by decide +kernel
theorem d_X7_takeNumber_24 : decode mX7_takeNumber.2.2.1 24 = .ok (.baload, 1) := by decide +kernel
theorem d_X7_takeNumber_25 : decode mX7_takeNumber.2.2.1 25 = .ok (.invokestatic 48, 3) := by decide +kernel
theorem d_X7_takeNumber_28 : decode mX7_takeNumber.2.2.1 28 = .ok (.ifCond .eq 24, 3) := by decide +kernel
theorem d_X7_takeNumber_31 : decode mX7_takeNumber.2.2.1 31 = .ok (.iload_n 3, 1) := by decide +kernel
theorem d_X7_takeNumber_32 : decode mX7_takeNumber.2.2.1 32 = .ok (.bipush 10, 2) := by decide +kernel
theorem d_X7_takeNumber_34 : decode mX7_takeNumber.2.2.1 34 = .ok (.imul, 1) := by decide +kernel
theorem d_X7_takeNumber_35 : decode mX7_takeNumber.2.2.1 35 = .ok (.aload_n 0, 1) := by decide +kernel
theorem d_X7_takeNumber_36 : decode mX7_takeNumber.2.2.1 36 = .ok (.getfield 21, 3) := by decide +kernel
theorem d_X7_takeNumber_39 : decode mX7_takeNumber.2.2.1 39 = .ok (.iload_n 2, 1) := by decide +kernel
theorem d_X7_takeNumber_40 : decode mX7_takeNumber.2.2.1 40 = .ok (.baload, 1) := by decide +kernel
theorem d_X7_takeNumber_41 : decode mX7_takeNumber.2.2.1 41 = .ok (.iadd, 1) := by decide +kernel
theorem d_X7_takeNumber_42 : decode mX7_takeNumber.2.2.1 42 = .ok (.bipush 48, 2) := by decide +kernel
theorem d_X7_takeNumber_44 : decode mX7_takeNumber.2.2.1 44 = .ok (.isub, 1) := by decide +kernel
theorem d_X7_takeNumber_45 : decode mX7_takeNumber.2.2.1 45 = .ok (.istore_n 3, 1) := by decide +kernel
theorem d_X7_takeNumber_46 : decode mX7_takeNumber.2.2.1 46 = .ok (.iinc 2 1, 3) := by decide +kernel
theorem d_X7_takeNumber_49 : decode mX7_takeNumber.2.2.1 49 = .ok (.goto (-45), 3) := by decide +kernel
theorem d_X7_takeNumber_52 : decode mX7_takeNumber.2.2.1 52 = .ok (.iload_n 2, 1) := by decide +kernel
theorem d_X7_takeNumber_53 : decode mX7_takeNumber.2.2.1 53 = .ok (.iload_n 1, 1) := by decide +kernel
theorem d_X7_takeNumber_54 : decode mX7_takeNumber.2.2.1 54 = .ok (.isub, 1) := by decide +kernel
theorem d_X7_takeNumber_55 : decode mX7_takeNumber.2.2.1 55 = .ok (.iconst 4, 1) := by decide +kernel
theorem d_X7_takeNumber_56 : decode mX7_takeNumber.2.2.1 56 = .ok (.if_icmp .le 14, 3) := by decide +kernel
theorem d_X7_takeNumber_70 : decode mX7_takeNumber.2.2.1 70 = .ok (.aload_n 0, 1) := by decide +kernel
theorem d_X7_takeNumber_71 : decode mX7_takeNumber.2.2.1 71 = .ok (.iconst 4, 1) := by decide +kernel
theorem d_X7_takeNumber_72 : decode mX7_takeNumber.2.2.1 72 = .ok (.iload_n 1, 1) := by decide +kernel
theorem d_X7_takeNumber_73 : decode mX7_takeNumber.2.2.1 73 = .ok (.iload_n 3, 1) := by decide +kernel
theorem d_X7_takeNumber_74 : decode mX7_takeNumber.2.2.1 74 = .ok (.iload_n 2, 1) := by decide +kernel
theorem d_X7_takeNumber_75 : decode mX7_takeNumber.2.2.1 75 = .ok (.invokevirtual 40, 3) := by decide +kernel
theorem d_X7_takeNumber_78 : decode mX7_takeNumber.2.2.1 78 = .ok (.ireturn, 1) := by decide +kernel
theorem d_X7_takeNumber_59 : decode mX7_takeNumber.2.2.1 59 = .ok (.aload_n 0, 1) := by decide +kernel
theorem d_X7_takeNumber_60 : decode mX7_takeNumber.2.2.1 60 = .ok (.iconst 1, 1) := by decide +kernel
theorem d_X7_takeNumber_61 : decode mX7_takeNumber.2.2.1 61 = .ok (.iload_n 1, 1) := by decide +kernel
theorem d_X7_takeNumber_62 : decode mX7_takeNumber.2.2.1 62 = .ok (.iconst 4, 1) := by decide +kernel
theorem d_X7_takeNumber_63 : decode mX7_takeNumber.2.2.1 63 = .ok (.iadd, 1) := by decide +kernel
theorem d_X7_takeNumber_64 : decode mX7_takeNumber.2.2.1 64 = .ok (.iconst 0, 1) := by decide +kernel
theorem d_X7_takeNumber_65 : decode mX7_takeNumber.2.2.1 65 = .ok (.iconst (-1), 1) := by decide +kernel
theorem d_X7_takeNumber_66 : decode mX7_takeNumber.2.2.1 66 = .ok (.invokevirtual 40, 3) := by decide +kernel
theorem d_X7_takeNumber_69 : decode mX7_takeNumber.2.2.1 69 = .ok (.ireturn, 1) := by decide +kernel
theorem ok_X7_takeNumber : e_m mX7_takeNumber 1 := ⟨tblG_in (inT3 (List.mem_of_getElem? (i := 185) rfl)) rfl, plainFor_of_name (by decide), rfl, ini_7, by decide +kernel, by decide⟩
theorem d_X7_takeOne_71 : decode mX7_takeOne.2.2.1 71 = .ok (.ireturn, 1) := by decide +kernel
theorem d_X7_takeOne_58 : decode mX7_takeOne.2.2.1 58 = .ok (.aload_n 0, 1) := by decide +kernel
theorem d_X7_takeOne_59 : decode mX7_takeOne.2.2.1 59 = .ok (.iload_n 1, 1) := by decide +kernel
theorem d_X7_takeOne_60 : decode mX7_takeOne.2.2.1 60 = .ok (.invokevirtual 51, 3) := by decide +kernel
def mX7_takeWord : MD := (7, yX7_takeWord, cX7_takeWord, 5, some .int)
theorem sel_X7_takeWord : Cond.instanceMethod mX7_takeWord.2.1 ∈ tblG ∧ Cond.selects mX7_takeWord.2.1.cls mX7_takeWord.2.1 mX7_takeWord.2.1 ∈ tblG := ⟨tblG_in (inT3 (List.mem_of_getElem? (i := 131) rfl)) rfl, tblG_in (inP1 (q := (mX7_takeWord.2.1, 6)) (List.mem_of_getElem? (i := 4) rfl)) rfl⟩
theorem s_7_51 : e_siteV 7 51 mX7_takeWord 7 := ⟨tblG_in (inT3 (List.mem_of_getElem? (i := 129) rfl)) rfl, sel_X7_takeWord.1, sel_X7_takeWord.2, rfl⟩
theorem d_X7_takeWord_0 : decode mX7_takeWord.2.2.1 0 = .ok (.iload_n 1, 1) := by decide +kernel
theorem d_X7_takeWord_1 : decode mX7_takeWord.2.2.1 1 = .ok (.istore_n 2, 1) := by decide +kernel
theorem d_X7_takeWord_2 : decode mX7_takeWord.2.2.1 2 = .ok (.iconst 0, 1) := by decide +kernel
theorem d_X7_takeWord_3 : decode mX7_takeWord.2.2.1 3 = .ok (.istore_n 3, 1) := by decide +kernel
theorem d_X7_takeWord_4 : decode mX7_takeWord.2.2.1 4 = .ok (.iload_n 2, 1) := by decide +kernel
theorem d_X7_takeWord_5 : decode mX7_takeWord.2.2.1 5 = .ok (.aload_n 0, 1) := by decide +kernel
theorem d_X7_takeWord_6 : decode mX7_takeWord.2.2.1 6 = .ok (.getfield 25, 3) := by decide +kernel
theorem d_X7_takeWord_9 : decode mX7_takeWord.2.2.1 9 = .ok (.if_icmp .ge 44, 3) := by decide +kernel
theorem d_X7_takeWord_12 : decode mX7_takeWord.2.2.1 12 = .ok (.iload_n 2, 1) := by decide +kernel
theorem d_X7_takeWord_13 : decode mX7_takeWord.2.2.1 13 = .ok (.iload_n 1, 1) := by decide +kernel
theorem d_X7_takeWord_14 : decode mX7_takeWord.2.2.1 14 = .ok (.bipush 6, 2) := by decide +kernel
theorem d_X7_takeWord_16 : decode mX7_takeWord.2.2.1 16 = .ok (.iadd, 1) := by decide +kernel
theorem d_X7_takeWord_17 : decode mX7_takeWord.2.2.1 17 = .ok (.if_icmp .gt 36, 3) := by decide +kernel
theorem d_X7_takeWord_20 : decode mX7_takeWord.2.2.1 20 = .ok (.aload_n 0, 1) := by decide +kernel
theorem d_X7_takeWord_21 : decode mX7_takeWord.2.2.1 21 = .ok (.getfield 21, 3) := by decide +kernel
theorem d_X7_takeWord_24 : decode mX7_takeWord.2.2.1 24 = .ok (.iload_n 2, 1) := by decide +kernel
theorem d_X7_takeWord_25 : decode mX7_takeWord.2.2.1 25 = .ok (.baload, 1) := by decide +kernel
theorem d_X7_takeWord_26 : decode mX7_takeWord.2.2.1 26 = .ok (.invokestatic 44, 3) := by decide +kernel
theorem d_X7_takeWord_29 : decode mX7_takeWord.2.2.1 29 = .ok (.ifCond .eq 24, 3) := by decide +kernel
theorem d_X7_takeWord_32 : decode mX7_takeWord.2.2.1 32 = .ok (.iload_n 3, 1) := by decide +kernel
theorem d_X7_takeWord_33 : decode mX7_takeWord.2.2.1 33 = .ok (.bipush 27, 2) := by decide +kernel
theorem d_X7_takeWord_35 : decode mX7_takeWord.2.2.1 35 = .ok (.imul, 1) := by decide +kernel
theorem d_X7_takeWord_36 : decode mX7_takeWord.2.2.1 36 = .ok (.aload_n 0, 1) := by decide +kernel
theorem d_X7_takeWord_37 : decode mX7_takeWord.2.2.1 37 = .ok (.getfield 21, 3) := by decide +kernel
theorem d_X7_takeWord_40 : decode mX7_takeWord.2.2.1 40 = .ok (.iload_n 2, 1) := by decide +kernel
theorem d_X7_takeWord_41 : decode mX7_takeWord.2.2.1 41 = .ok (.baload, 1) := by decide +kernel
theorem d_X7_takeWord_42 : decode mX7_takeWord.2.2.1 42 = .ok (.iadd, 1) := by decide +kernel
theorem d_X7_takeWord_43 : decode mX7_takeWord.2.2.1 43 = .ok (.bipush 96, 2) := by decide +kernel
theorem d_X7_takeWord_45 : decode mX7_takeWord.2.2.1 45 = .ok (.isub, 1) := by decide +kernel
theorem d_X7_takeWord_46 : decode mX7_takeWord.2.2.1 46 = .ok (.istore_n 3, 1) := by decide +kernel
theorem d_X7_takeWord_47 : decode mX7_takeWord.2.2.1 47 = .ok (.iinc 2 1, 3) := by decide +kernel
theorem d_X7_takeWord_50 : decode mX7_takeWord.2.2.1 50 = .ok (.goto (-46), 3) := by decide +kernel
theorem d_X7_takeWord_53 : decode mX7_takeWord.2.2.1 53 = .ok (.iload_n 2, 1) := by decide +kernel
theorem d_X7_takeWord_54 : decode mX7_takeWord.2.2.1 54 = .ok (.iload_n 1, 1) := by decide +kernel
theorem d_X7_takeWord_55 : decode mX7_takeWord.2.2.1 55 = .ok (.isub, 1) := by decide +kernel
theorem d_X7_takeWord_56 : decode mX7_takeWord.2.2.1 56 = .ok (.bipush 6, 2) := by decide +kernel
theorem d_X7_takeWord_58 : decode mX7_takeWord.2.2.1 58 = .ok (.if_icmp .le 15, 3) := by decide +kernel
theorem d_X7_takeWord_73 : decode mX7_takeWord.2.2.1 73 = .ok (.aload_n 0, 1) := by decide +kernel
