def mX11_letter : MD := (11, yX11_letter, cX11_letter, 4, some .int)
theorem d_X11_letter_0 : decode mX11_letter.2.2.1 0 = .ok (.iload_n 1, 1) := by decide +kernel
theorem d_X11_letter_1 : decode mX11_letter.2.2.1 1 = .ok (.ifCond .lt 25, 3) := by decide +kernel
theorem d_X11_letter_26 : decode mX11_letter.2.2.1 26 = .ok (.iconst (-1), 1) := by decide +kernel
theorem d_X11_letter_27 : decode mX11_letter.2.2.1 27 = .ok (.ireturn, 1) := by decide +kernel
theorem d_X11_letter_4 : decode mX11_letter.2.2.1 4 = .ok (.iload_n 1, 1) := by decide +kernel
theorem d_X11_letter_5 : decode mX11_letter.2.2.1 5 = .ok (.iconst 3, 1) := by decide +kernel
theorem d_X11_letter_6 : decode mX11_letter.2.2.1 6 = .ok (.if_icmp .ge 20, 3) := by decide +kernel
theorem d_X11_letter_9 : decode mX11_letter.2.2.1 9 = .ok (.iload_n 2, 1) := by decide +kernel
theorem d_X11_letter_10 : decode mX11_letter.2.2.1 10 = .ok (.ifCond .lt 16, 3) := by decide +kernel
theorem d_X11_letter_13 : decode mX11_letter.2.2.1 13 = .ok (.iload_n 2, 1) := by decide +kernel
theorem d_X11_letter_14 : decode mX11_letter.2.2.1 14 = .ok (.aload_n 0, 1) := by decide +kernel
theorem d_X11_letter_15 : decode mX11_letter.2.2.1 15 = .ok (.getfield 30, 3) := by decide +kernel
theorem d_X11_letter_18 : decode mX11_letter.2.2.1 18 = .ok (.getfield 130, 3) := by decide +kernel
theorem d_X11_letter_21 : decode mX11_letter.2.2.1 21 = .ok (.iload_n 1, 1) := by decide +kernel
theorem d_X11_letter_22 : decode mX11_letter.2.2.1 22 = .ok (.iaload, 1) := by decide +kernel
theorem d_X11_letter_23 : decode mX11_letter.2.2.1 23 = .ok (.if_icmp .lt 5, 3) := by decide +kernel
theorem d_X11_letter_28 : decode mX11_letter.2.2.1 28 = .ok (.aload_n 0, 1) := by decide +kernel
theorem d_X11_letter_29 : decode mX11_letter.2.2.1 29 = .ok (.getfield 30, 3) := by decide +kernel
theorem d_X11_letter_32 : decode mX11_letter.2.2.1 32 = .ok (.iload_n 1, 1) := by decide +kernel
theorem d_X11_letter_33 : decode mX11_letter.2.2.1 33 = .ok (.iload_n 2, 1) := by decide +kernel
theorem d_X11_letter_34 : decode mX11_letter.2.2.1 34 = .ok (.iload_n 3, 1) := by decide +kernel
theorem d_X11_letter_35 : decode mX11_letter.2.2.1 35 = .ok (.invokevirtual 137, 3) := by decide +kernel
def mX3_letterOf : MD := (3, yX3_letterOf, cX3_letterOf, 7, some .int)
theorem sel_X3_letterOf : Cond.instanceMethod mX3_letterOf.2.1 ∈ tblG ∧ Cond.selects mX3_letterOf.2.1.cls mX3_letterOf.2.1 mX3_letterOf.2.1 ∈ tblG := ⟨tblG_in (inT4 (List.mem_of_getElem? (i := 215) rfl)) rfl, tblG_in (inT4 (List.mem_of_getElem? (i := 216) rfl)) rfl⟩
theorem s_11_137 : e_siteV 11 137 mX3_letterOf 3 := ⟨tblG_in (inT4 (List.mem_of_getElem? (i := 214) rfl)) rfl, sel_X3_letterOf.1, sel_X3_letterOf.2, rfl⟩
theorem d_X3_letterOf_0 : decode mX3_letterOf.2.2.1 0 = .ok (.aload_n 0, 1) := by decide +kernel
theorem d_X3_letterOf_1 : decode mX3_letterOf.2.2.1 1 = .ok (.getfield 30, 3) := by decide +kernel
theorem d_X3_letterOf_4 : decode mX3_letterOf.2.2.1 4 = .ok (.getstatic 65, 3) := by decide +kernel
theorem sl_3_65 : Cond.fieldLink (e_cn 3) 65 "SipMeter$Machine" "FIRST_NAME" "[I" ∈ tblG := tblG_in (inT4 (List.mem_of_getElem? (i := 76) rfl)) rfl
theorem d_X3_letterOf_7 : decode mX3_letterOf.2.2.1 7 = .ok (.iload_n 1, 1) := by decide +kernel
theorem d_X3_letterOf_8 : decode mX3_letterOf.2.2.1 8 = .ok (.iaload, 1) := by decide +kernel
theorem d_X3_letterOf_9 : decode mX3_letterOf.2.2.1 9 = .ok (.iload_n 2, 1) := by decide +kernel
theorem d_X3_letterOf_10 : decode mX3_letterOf.2.2.1 10 = .ok (.iadd, 1) := by decide +kernel
theorem d_X3_letterOf_11 : decode mX3_letterOf.2.2.1 11 = .ok (.iaload, 1) := by decide +kernel
theorem d_X3_letterOf_12 : decode mX3_letterOf.2.2.1 12 = .ok (.istore 4, 2) := by decide +kernel
theorem d_X3_letterOf_14 : decode mX3_letterOf.2.2.1 14 = .ok (.iconst 0, 1) := by decide +kernel
theorem d_X3_letterOf_15 : decode mX3_letterOf.2.2.1 15 = .ok (.istore 5, 2) := by decide +kernel
theorem d_X3_letterOf_17 : decode mX3_letterOf.2.2.1 17 = .ok (.iload 4, 2) := by decide +kernel
theorem d_X3_letterOf_19 : decode mX3_letterOf.2.2.1 19 = .ok (.istore 6, 2) := by decide +kernel
theorem d_X3_letterOf_21 : decode mX3_letterOf.2.2.1 21 = .ok (.iload 6, 2) := by decide +kernel
theorem d_X3_letterOf_23 : decode mX3_letterOf.2.2.1 23 = .ok (.ifCond .le 23, 3) := by decide +kernel
theorem d_X3_letterOf_26 : decode mX3_letterOf.2.2.1 26 = .ok (.iload 5, 2) := by decide +kernel
theorem d_X3_letterOf_28 : decode mX3_letterOf.2.2.1 28 = .ok (.bipush 6, 2) := by decide +kernel
theorem d_X3_letterOf_30 : decode mX3_letterOf.2.2.1 30 = .ok (.if_icmp .ge 16, 3) := by decide +kernel
theorem d_X3_letterOf_33 : decode mX3_letterOf.2.2.1 33 = .ok (.iinc 5 1, 3) := by decide +kernel
theorem d_X3_letterOf_36 : decode mX3_letterOf.2.2.1 36 = .ok (.iload 6, 2) := by decide +kernel
theorem d_X3_letterOf_38 : decode mX3_letterOf.2.2.1 38 = .ok (.bipush 27, 2) := by decide +kernel
theorem d_X3_letterOf_40 : decode mX3_letterOf.2.2.1 40 = .ok (.idiv, 1) := by decide +kernel
theorem d_X3_letterOf_41 : decode mX3_letterOf.2.2.1 41 = .ok (.istore 6, 2) := by decide +kernel
theorem d_X3_letterOf_43 : decode mX3_letterOf.2.2.1 43 = .ok (.goto (-22), 3) := by decide +kernel
theorem d_X3_letterOf_46 : decode mX3_letterOf.2.2.1 46 = .ok (.iload_n 3, 1) := by decide +kernel
theorem d_X3_letterOf_47 : decode mX3_letterOf.2.2.1 47 = .ok (.ifCond .lt 9, 3) := by decide +kernel
theorem d_X3_letterOf_56 : decode mX3_letterOf.2.2.1 56 = .ok (.iconst (-1), 1) := by decide +kernel
theorem d_X3_letterOf_57 : decode mX3_letterOf.2.2.1 57 = .ok (.ireturn, 1) := by decide +kernel
theorem d_X3_letterOf_50 : decode mX3_letterOf.2.2.1 50 = .ok (.iload_n 3, 1) := by decide +kernel
theorem d_X3_letterOf_51 : decode mX3_letterOf.2.2.1 51 = .ok (.iload 5, 2) := by decide +kernel
theorem d_X3_letterOf_53 : decode mX3_letterOf.2.2.1 53 = .ok (.if_icmp .lt 5, 3) := by decide +kernel
theorem d_X3_letterOf_58 : decode mX3_letterOf.2.2.1 58 = .ok (.iload 5, 2) := by decide +kernel
theorem d_X3_letterOf_60 : decode mX3_letterOf.2.2.1 60 = .ok (.iconst 1, 1) := by decide +kernel
theorem d_X3_letterOf_61 : decode mX3_letterOf.2.2.1 61 = .ok (.isub, 1) := by decide +kernel
theorem d_X3_letterOf_62 : decode mX3_letterOf.2.2.1 62 = .ok (.istore 6, 2) := by decide +kernel
theorem d_X3_letterOf_64 : decode mX3_letterOf.2.2.1 64 = .ok (.iload 6, 2) := by decide +kernel
theorem d_X3_letterOf_66 : decode mX3_letterOf.2.2.1 66 = .ok (.iload_n 3, 1) := by decide +kernel
theorem d_X3_letterOf_67 : decode mX3_letterOf.2.2.1 67 = .ok (.if_icmp .le 16, 3) := by decide +kernel
theorem d_X3_letterOf_83 : decode mX3_letterOf.2.2.1 83 = .ok (.iload 4, 2) := by decide +kernel
theorem d_X3_letterOf_85 : decode mX3_letterOf.2.2.1 85 = .ok (.bipush 27, 2) := by decide +kernel
theorem d_X3_letterOf_87 : decode mX3_letterOf.2.2.1 87 = .ok (.irem, 1) := by decide +kernel
theorem d_X3_letterOf_88 : decode mX3_letterOf.2.2.1 88 = .ok (.bipush 96, 2) := by decide +kernel
theorem d_X3_letterOf_90 : decode mX3_letterOf.2.2.1 90 = .ok (.iadd, 1) := by decide +kernel
theorem d_X3_letterOf_91 : decode mX3_letterOf.2.2.1 91 = .ok (.ireturn, 1) := by decide +kernel
theorem d_X3_letterOf_70 : decode mX3_letterOf.2.2.1 70 = .ok (.iload 4, 2) := by decide +kernel
theorem d_X3_letterOf_72 : decode mX3_letterOf.2.2.1 72 = .ok (.bipush 27, 2) := by decide +kernel
theorem d_X3_letterOf_74 : decode mX3_letterOf.2.2.1 74 = .ok (.idiv, 1) := by decide +kernel
theorem d_X3_letterOf_75 : decode mX3_letterOf.2.2.1 75 = .ok (.istore 4, 2) := by decide +kernel
theorem d_X3_letterOf_77 : decode mX3_letterOf.2.2.1 77 = .ok (.iinc 6 (-1), 3) := by decide +kernel
theorem d_X3_letterOf_80 : decode mX3_letterOf.2.2.1 80 = .ok (.goto (-16), 3) := by decide +kernel
theorem ok_X3_letterOf : e_m mX3_letterOf 3 := ⟨tblG_in (inT4 (List.mem_of_getElem? (i := 217) rfl)) rfl, plainFor_of_name (by decide), rfl, ini_3, by decide +kernel, by decide⟩
theorem d_X11_letter_38 : decode mX11_letter.2.2.1 38 = .ok (.ireturn, 1) := by decide +kernel
def mX11_text : MD := (11, yX11_text, cX11_text, 2, some .int)
theorem d_X11_text_0 : decode mX11_text.2.2.1 0 = .ok (.aload_n 0, 1) := by decide +kernel
theorem d_X11_text_1 : decode mX11_text.2.2.1 1 = .ok (.getfield 16, 3) := by decide +kernel
theorem d_X11_text_4 : decode mX11_text.2.2.1 4 = .ok (.aload_n 0, 1) := by decide +kernel
theorem d_X11_text_5 : decode mX11_text.2.2.1 5 = .ok (.getfield 9, 3) := by decide +kernel
theorem d_X11_text_8 : decode mX11_text.2.2.1 8 = .ok (.aload_n 0, 1) := by decide +kernel
theorem d_X11_text_9 : decode mX11_text.2.2.1 9 = .ok (.getfield 84, 3) := by decide +kernel
theorem d_X11_text_12 : decode mX11_text.2.2.1 12 = .ok (.invokevirtual 92, 3) := by decide +kernel
def mX7_takeApart : MD := (7, yX7_takeApart, cX7_takeApart, 8, none)
theorem sel_X7_takeApart : Cond.instanceMethod mX7_takeApart.2.1 ∈ tblG ∧ Cond.selects mX7_takeApart.2.1.cls mX7_takeApart.2.1 mX7_takeApart.2.1 ∈ tblG := ⟨tblG_in (inT3 (List.mem_of_getElem? (i := 108) rfl)) rfl, tblG_in (inT3 (List.mem_of_getElem? (i := 109) rfl)) rfl⟩
theorem s_11_92 : e_siteV 11 92 mX7_takeApart 7 := ⟨tblG_in (inT3 (List.mem_of_getElem? (i := 107) rfl)) rfl, sel_X7_takeApart.1, sel_X7_takeApart.2, rfl⟩
theorem d_X7_takeApart_0 : decode mX7_takeApart.2.2.1 0 = .ok (.aload_n 0, 1) := by decide +kernel
theorem d_X7_takeApart_1 : decode mX7_takeApart.2.2.1 1 = .ok (.aload_n 1, 1) := by decide +kernel
theorem d_X7_takeApart_2 : decode mX7_takeApart.2.2.1 2 = .ok (.putfield 21, 3) := by decide +kernel
theorem d_X7_takeApart_5 : decode mX7_takeApart.2.2.1 5 = .ok (.aload_n 0, 1) := by decide +kernel
theorem d_X7_takeApart_6 : decode mX7_takeApart.2.2.1 6 = .ok (.iload_n 2, 1) := by decide +kernel
theorem d_X7_takeApart_7 : decode mX7_takeApart.2.2.1 7 = .ok (.putfield 25, 3) := by decide +kernel
theorem d_X7_takeApart_10 : decode mX7_takeApart.2.2.1 10 = .ok (.aload_n 0, 1) := by decide +kernel
theorem d_X7_takeApart_11 : decode mX7_takeApart.2.2.1 11 = .ok (.iconst 0, 1) := by decide +kernel
theorem d_X7_takeApart_12 : decode mX7_takeApart.2.2.1 12 = .ok (.putfield 29, 3) := by decide +kernel
theorem d_X7_takeApart_15 : decode mX7_takeApart.2.2.1 15 = .ok (.iconst 0, 1) := by decide +kernel
theorem d_X7_takeApart_16 : decode mX7_takeApart.2.2.1 16 = .ok (.istore_n 3, 1) := by decide +kernel
theorem d_X7_takeApart_17 : decode mX7_takeApart.2.2.1 17 = .ok (.iconst 0, 1) := by decide +kernel
theorem d_X7_takeApart_18 : decode mX7_takeApart.2.2.1 18 = .ok (.istore 4, 2) := by decide +kernel
theorem d_X7_takeApart_20 : decode mX7_takeApart.2.2.1 20 = .ok (.iconst 0, 1) := by decide +kernel
theorem d_X7_takeApart_21 : decode mX7_takeApart.2.2.1 21 = .ok (.istore 5, 2) := by decide +kernel
theorem d_X7_takeApart_23 : decode mX7_takeApart.2.2.1 23 = .ok (.iload 5, 2) := by decide +kernel
theorem d_X7_takeApart_25 : decode mX7_takeApart.2.2.1 25 = .ok (.sipush 900, 3) := by decide +kernel
theorem d_X7_takeApart_28 : decode mX7_takeApart.2.2.1 28 = .ok (.if_icmp .gt 76, 3) := by decide +kernel
theorem d_X7_takeApart_31 : decode mX7_takeApart.2.2.1 31 = .ok (.iload_n 3, 1) := by decide +kernel
theorem d_X7_takeApart_32 : decode mX7_takeApart.2.2.1 32 = .ok (.ifCond .lt 72, 3) := by decide +kernel
theorem d_X7_takeApart_35 : decode mX7_takeApart.2.2.1 35 = .ok (.aload_n 0, 1) := by decide +kernel
theorem d_X7_takeApart_36 : decode mX7_takeApart.2.2.1 36 = .ok (.iload_n 3, 1) := by decide +kernel
theorem d_X7_takeApart_37 : decode mX7_takeApart.2.2.1 37 = .ok (.invokevirtual 32, 3) := by decide +kernel
theorem sel_X7_skipBlanks : Cond.instanceMethod mX7_skipBlanks.2.1 ∈ tblG ∧ Cond.selects mX7_skipBlanks.2.1.cls mX7_skipBlanks.2.1 mX7_skipBlanks.2.1 ∈ tblG := ⟨tblG_in (inT3 (List.mem_of_getElem? (i := 113) rfl)) rfl, tblG_in (inP1 (q := (mX7_skipBlanks.2.1, 6)) (List.mem_of_getElem? (i := 1) rfl)) rfl⟩
theorem s_7_32 : e_siteV 7 32 mX7_skipBlanks 7 := ⟨tblG_in (inT3 (List.mem_of_getElem? (i := 111) rfl)) rfl, sel_X7_skipBlanks.1, sel_X7_skipBlanks.2, rfl⟩
theorem ok_X7_skipBlanks : e_m mX7_skipBlanks 1 := ⟨tblG_in (inT3 (List.mem_of_getElem? (i := 114) rfl)) rfl, plainFor_of_name (by decide), rfl, ini_7, by decide +kernel, by decide⟩
theorem d_X7_takeApart_40 : decode mX7_takeApart.2.2.1 40 = .ok (.istore 6, 2) := by decide +kernel
theorem d_X7_takeApart_42 : decode mX7_takeApart.2.2.1 42 = .ok (.iload 4, 2) := by decide +kernel
theorem d_X7_takeApart_44 : decode mX7_takeApart.2.2.1 44 = .ok (.ifCond .eq 13, 3) := by decide +kernel
theorem d_X7_takeApart_57 : decode mX7_takeApart.2.2.1 57 = .ok (.iconst 0, 1) := by decide +kernel
theorem d_X7_takeApart_58 : decode mX7_takeApart.2.2.1 58 = .ok (.istore 7, 2) := by decide +kernel
theorem d_X7_takeApart_60 : decode mX7_takeApart.2.2.1 60 = .ok (.aload_n 0, 1) := by decide +kernel
theorem d_X7_takeApart_61 : decode mX7_takeApart.2.2.1 61 = .ok (.iload 6, 2) := by decide +kernel
theorem d_X7_takeApart_63 : decode mX7_takeApart.2.2.1 63 = .ok (.iload 7, 2) := by decide +kernel
theorem d_X7_takeApart_65 : decode mX7_takeApart.2.2.1 65 = .ok (.invokevirtual 36, 3) := by decide +kernel
def mX7_takeOne : MD := (7, yX7_takeOne, cX7_takeOne, 4, some .int)
theorem sel_X7_takeOne : Cond.instanceMethod mX7_takeOne.2.1 ∈ tblG ∧ Cond.selects mX7_takeOne.2.1.cls mX7_takeOne.2.1 mX7_takeOne.2.1 ∈ tblG := ⟨tblG_in (inT3 (List.mem_of_getElem? (i := 117) rfl)) rfl, tblG_in (inP1 (q := (mX7_takeOne.2.1, 6)) (List.mem_of_getElem? (i := 2) rfl)) rfl⟩
theorem s_7_36 : e_siteV 7 36 mX7_takeOne 7 := ⟨tblG_in (inT3 (List.mem_of_getElem? (i := 115) rfl)) rfl, sel_X7_takeOne.1, sel_X7_takeOne.2, rfl⟩
theorem d_X7_takeOne_0 : decode mX7_takeOne.2.2.1 0 = .ok (.iload_n 1, 1) := by decide +kernel
theorem d_X7_takeOne_1 : decode mX7_takeOne.2.2.1 1 = .ok (.aload_n 0, 1) := by decide +kernel
theorem d_X7_takeOne_2 : decode mX7_takeOne.2.2.1 2 = .ok (.getfield 25, 3) := by decide +kernel
theorem d_X7_takeOne_5 : decode mX7_takeOne.2.2.1 5 = .ok (.if_icmp .lt 12, 3) := by decide +kernel
theorem d_X7_takeOne_17 : decode mX7_takeOne.2.2.1 17 = .ok (.aload_n 0, 1) := by decide +kernel
theorem d_X7_takeOne_18 : decode mX7_takeOne.2.2.1 18 = .ok (.getfield 21, 3) := by decide +kernel
theorem d_X7_takeOne_21 : decode mX7_takeOne.2.2.1 21 = .ok (.iload_n 1, 1) := by decide +kernel
theorem d_X7_takeOne_22 : decode mX7_takeOne.2.2.1 22 = .ok (.baload, 1) := by decide +kernel
theorem d_X7_takeOne_23 : decode mX7_takeOne.2.2.1 23 = .ok (.istore_n 3, 1) := by decide +kernel
theorem d_X7_takeOne_24 : decode mX7_takeOne.2.2.1 24 = .ok (.iload_n 3, 1) := by decide +kernel
theorem d_X7_takeOne_25 : decode mX7_takeOne.2.2.1 25 = .ok (.invokestatic 44, 3) := by decide +kernel
theorem s_7_44 : e_siteS 7 44 mX7_isLetter := ⟨tblG_in (inT3 (List.mem_of_getElem? (i := 123) rfl)) rfl, tblG_in (inT3 (List.mem_of_getElem? (i := 124) rfl)) rfl⟩
theorem ok_X7_isLetter : e_m mX7_isLetter 1 := ⟨tblG_in (inT3 (List.mem_of_getElem? (i := 125) rfl)) rfl, plainFor_of_name (by decide), rfl, ini_7, by decide +kernel, by decide⟩
theorem d_X7_takeOne_28 : decode mX7_takeOne.2.2.1 28 = .ok (.ifCond .ne 10, 3) := by decide +kernel
theorem d_X7_takeOne_31 : decode mX7_takeOne.2.2.1 31 = .ok (.iload_n 3, 1) := by decide +kernel
theorem d_X7_takeOne_32 : decode mX7_takeOne.2.2.1 32 = .ok (.invokestatic 48, 3) := by decide +kernel
theorem d_X7_takeOne_35 : decode mX7_takeOne.2.2.1 35 = .ok (.ifCond .eq 37, 3) := by decide +kernel
theorem d_X7_takeOne_72 : decode mX7_takeOne.2.2.1 72 = .ok (.iload_n 3, 1) := by decide +kernel
theorem d_X7_takeOne_73 : decode mX7_takeOne.2.2.1 73 = .ok (.ifCond .le 24, 3) := by decide +kernel
theorem d_X7_takeOne_76 : decode mX7_takeOne.2.2.1 76 = .ok (.ldc 57, 2) := by decide +kernel
theorem d_X7_takeOne_78 : decode mX7_takeOne.2.2.1 78 = .ok (.iload_n 3, 1) := by decide +kernel
theorem d_X7_takeOne_79 : decode mX7_takeOne.2.2.1 79 = .ok (.i2c, 1) := by decide +kernel
theorem d_X7_takeOne_80 : decode mX7_takeOne.2.2.1 80 = .ok (.invokevirtual 59, 3) := by decide +kernel
def mJ0_indexOf_0f7a4 : MD := (19, yJ0_indexOf_0f7a4, cJ0_indexOf_0f7a4, 2, some .int)
theorem sel_J0_indexOf_0f7a4 : Cond.instanceMethod mJ0_indexOf_0f7a4.2.1 ∈ tblG ∧ Cond.selects mJ0_indexOf_0f7a4.2.1.cls mJ0_indexOf_0f7a4.2.1 mJ0_indexOf_0f7a4.2.1 ∈ tblG := ⟨tblG_in (inT3 (List.mem_of_getElem? (i := 188) rfl)) rfl, tblG_in (inT3 (List.mem_of_getElem? (i := 189) rfl)) rfl⟩
theorem sx_7_59 : e_siteX 7 59 mJ0_indexOf_0f7a4 := ⟨tblG_in (inT3 (List.mem_of_getElem? (i := 187) rfl)) rfl, sel_J0_indexOf_0f7a4.1, sel_J0_indexOf_0f7a4.2⟩
theorem d_J0_indexOf_0f7a4_0 : decode mJ0_indexOf_0f7a4.2.2.1 0 = .ok (.aload_n 0, 1) := by decide +kernel
theorem d_J0_indexOf_0f7a4_1 : decode mJ0_indexOf_0f7a4.2.2.1 1 = .ok (.iload_n 1, 1) := by decide +kernel
theorem d_J0_indexOf_0f7a4_2 : decode mJ0_indexOf_0f7a4.2.2.1 2 = .ok (.iconst 0, 1) := by decide +kernel
theorem d_J0_indexOf_0f7a4_3 : decode mJ0_indexOf_0f7a4.2.2.1 3 = .ok (.invokevirtual 633, 3) := by decide +kernel
def mJ0_indexOf_7cf53 : MD := (19, yJ0_indexOf_7cf53, cJ0_indexOf_7cf53, 3, some .int)
theorem sel_J0_indexOf_7cf53 : Cond.instanceMethod mJ0_indexOf_7cf53.2.1 ∈ tblG ∧ Cond.selects mJ0_indexOf_7cf53.2.1.cls mJ0_indexOf_7cf53.2.1 mJ0_indexOf_7cf53.2.1 ∈ tblG := ⟨tblG_in (inT3 (List.mem_of_getElem? (i := 192) rfl)) rfl, tblG_in (inT3 (List.mem_of_getElem? (i := 193) rfl)) rfl⟩
theorem sx_19_633 : e_siteX 19 633 mJ0_indexOf_7cf53 := ⟨tblG_in (inT3 (List.mem_of_getElem? (i := 191) rfl)) rfl, sel_J0_indexOf_7cf53.1, sel_J0_indexOf_7cf53.2⟩
theorem d_J0_indexOf_7cf53_0 : decode mJ0_indexOf_7cf53.2.2.1 0 = .ok (.aload_n 0, 1) := by decide +kernel
theorem d_J0_indexOf_7cf53_1 : decode mJ0_indexOf_7cf53.2.2.1 1 = .ok (.invokevirtual 492, 3) := by decide +kernel
def mJ0_isLatin1_aae02 : MD := (19, yJ0_isLatin1_aae02, cJ0_isLatin1_aae02, 1, some .boolean)
theorem sel_J0_isLatin1_aae02 : Cond.instanceMethod mJ0_isLatin1_aae02.2.1 ∈ tblG ∧ Cond.selects mJ0_isLatin1_aae02.2.1.cls mJ0_isLatin1_aae02.2.1 mJ0_isLatin1_aae02.2.1 ∈ tblG := ⟨tblG_in (inT3 (List.mem_of_getElem? (i := 147) rfl)) rfl, tblG_in (inT3 (List.mem_of_getElem? (i := 148) rfl)) rfl⟩
theorem sx_19_492 : e_siteX 19 492 mJ0_isLatin1_aae02 := ⟨tblG_in (inT3 (List.mem_of_getElem? (i := 146) rfl)) rfl, sel_J0_isLatin1_aae02.1, sel_J0_isLatin1_aae02.2⟩
theorem d_J0_isLatin1_aae02_0 : decode mJ0_isLatin1_aae02.2.2.1 0 = .ok (.getstatic 38, 3) := by decide +kernel
theorem sl_19_38 : Cond.fieldLink (e_cn 19) 38 "java/lang/String" "COMPACT_STRINGS" "Z" ∈ tblG := tblG_in (inT3 (List.mem_of_getElem? (i := 150) rfl)) rfl
theorem d_J0_isLatin1_aae02_3 : decode mJ0_isLatin1_aae02.2.2.1 3 = .ok (.ifCond .eq 14, 3) := by decide +kernel
theorem d_J0_isLatin1_aae02_6 : decode mJ0_isLatin1_aae02.2.2.1 6 = .ok (.aload_n 0, 1) := by decide +kernel
theorem d_J0_isLatin1_aae02_7 : decode mJ0_isLatin1_aae02.2.2.1 7 = .ok (.getfield 15, 3) := by decide +kernel
theorem sl_19_15 : Cond.fieldLink (e_cn 19) 15 "java/lang/String" "coder" "B" ∈ tblG := tblG_in (inT10 (List.mem_of_getElem? (i := 39) rfl)) rfl
theorem d_J0_isLatin1_aae02_10 : decode mJ0_isLatin1_aae02.2.2.1 10 = .ok (.ifCond .ne 7, 3) := by decide +kernel
theorem d_J0_isLatin1_aae02_13 : decode mJ0_isLatin1_aae02.2.2.1 13 = .ok (.iconst 1, 1) := by decide +kernel
theorem d_J0_isLatin1_aae02_14 : decode mJ0_isLatin1_aae02.2.2.1 14 = .ok (.goto 4, 3) := by decide +kernel
theorem d_J0_isLatin1_aae02_18 : decode mJ0_isLatin1_aae02.2.2.1 18 = .ok (.ireturn, 1) := by decide +kernel
theorem ini_19 : Cond.initialized "java/lang/String" ∈ tblG := tblG_in (inT1 (List.mem_of_getElem? (i := 15) rfl)) rfl
theorem ok_J0_isLatin1_aae02 : e_m mJ0_isLatin1_aae02 0 := ⟨tblG_in (inT3 (List.mem_of_getElem? (i := 149) rfl)) rfl, plainFor_of_name (by decide), rfl, ini_19, by decide +kernel, by decide⟩
theorem d_J0_indexOf_7cf53_4 : decode mJ0_indexOf_7cf53.2.2.1 4 = .ok (.ifCond .eq 19, 3) := by decide +kernel
theorem d_J0_indexOf_7cf53_7 : decode mJ0_indexOf_7cf53.2.2.1 7 = .ok (.aload_n 0, 1) := by decide +kernel
theorem d_J0_indexOf_7cf53_8 : decode mJ0_indexOf_7cf53.2.2.1 8 = .ok (.getfield 9, 3) := by decide +kernel
theorem sl_19_9 : Cond.fieldLink (e_cn 19) 9 "java/lang/String" "value" "[B" ∈ tblG := tblG_in (inT10 (List.mem_of_getElem? (i := 40) rfl)) rfl
theorem d_J0_indexOf_7cf53_11 : decode mJ0_indexOf_7cf53.2.2.1 11 = .ok (.iload_n 1, 1) := by decide +kernel
theorem d_J0_indexOf_7cf53_12 : decode mJ0_indexOf_7cf53.2.2.1 12 = .ok (.iload_n 2, 1) := by decide +kernel
theorem d_J0_indexOf_7cf53_13 : decode mJ0_indexOf_7cf53.2.2.1 13 = .ok (.aload_n 0, 1) := by decide +kernel
theorem d_J0_indexOf_7cf53_14 : decode mJ0_indexOf_7cf53.2.2.1 14 = .ok (.invokevirtual 505, 3) := by decide +kernel
def mJ0_length_8abf5 : MD := (19, yJ0_length_8abf5, cJ0_length_8abf5, 1, some .int)
theorem sel_J0_length_8abf5 : Cond.instanceMethod mJ0_length_8abf5.2.1 ∈ tblG ∧ Cond.selects mJ0_length_8abf5.2.1.cls mJ0_length_8abf5.2.1 mJ0_length_8abf5.2.1 ∈ tblG := ⟨tblG_in (inT3 (List.mem_of_getElem? (i := 196) rfl)) rfl, tblG_in (inT3 (List.mem_of_getElem? (i := 197) rfl)) rfl⟩
theorem sx_19_505 : e_siteX 19 505 mJ0_length_8abf5 := ⟨tblG_in (inT3 (List.mem_of_getElem? (i := 195) rfl)) rfl, sel_J0_length_8abf5.1, sel_J0_length_8abf5.2⟩
theorem d_J0_length_8abf5_0 : decode mJ0_length_8abf5.2.2.1 0 = .ok (.aload_n 0, 1) := by decide +kernel
theorem d_J0_length_8abf5_1 : decode mJ0_length_8abf5.2.2.1 1 = .ok (.getfield 9, 3) := by decide +kernel
theorem d_J0_length_8abf5_4 : decode mJ0_length_8abf5.2.2.1 4 = .ok (.arraylength, 1) := by decide +kernel
theorem d_J0_length_8abf5_5 : decode mJ0_length_8abf5.2.2.1 5 = .ok (.aload_n 0, 1) := by decide +kernel
theorem d_J0_length_8abf5_6 : decode mJ0_length_8abf5.2.2.1 6 = .ok (.invokevirtual 335, 3) := by decide +kernel
def mJ0_coder_7d493 : MD := (19, yJ0_coder_7d493, cJ0_coder_7d493, 1, some .byte)
theorem sel_J0_coder_7d493 : Cond.instanceMethod mJ0_coder_7d493.2.1 ∈ tblG ∧ Cond.selects mJ0_coder_7d493.2.1.cls mJ0_coder_7d493.2.1 mJ0_coder_7d493.2.1 ∈ tblG := ⟨tblG_in (inT3 (List.mem_of_getElem? (i := 200) rfl)) rfl, tblG_in (inT3 (List.mem_of_getElem? (i := 201) rfl)) rfl⟩
theorem sx_19_335 : e_siteX 19 335 mJ0_coder_7d493 := ⟨tblG_in (inT3 (List.mem_of_getElem? (i := 199) rfl)) rfl, sel_J0_coder_7d493.1, sel_J0_coder_7d493.2⟩
theorem d_J0_coder_7d493_0 : decode mJ0_coder_7d493.2.2.1 0 = .ok (.getstatic 38, 3) := by decide +kernel
theorem d_J0_coder_7d493_3 : decode mJ0_coder_7d493.2.2.1 3 = .ok (.ifCond .eq 10, 3) := by decide +kernel
theorem d_J0_coder_7d493_6 : decode mJ0_coder_7d493.2.2.1 6 = .ok (.aload_n 0, 1) := by decide +kernel
theorem d_J0_coder_7d493_7 : decode mJ0_coder_7d493.2.2.1 7 = .ok (.getfield 15, 3) := by decide +kernel
theorem d_J0_coder_7d493_10 : decode mJ0_coder_7d493.2.2.1 10 = .ok (.goto 4, 3) := by decide +kernel
theorem d_J0_coder_7d493_14 : decode mJ0_coder_7d493.2.2.1 14 = .ok (.ireturn, 1) := by decide +kernel
theorem ok_J0_coder_7d493 : e_m mJ0_coder_7d493 0 := ⟨tblG_in (inT3 (List.mem_of_getElem? (i := 202) rfl)) rfl, plainFor_of_name (by decide), rfl, ini_19, by decide +kernel, by decide⟩
theorem d_J0_length_8abf5_9 : decode mJ0_length_8abf5.2.2.1 9 = .ok (.ishr, 1) := by decide +kernel
theorem d_J0_length_8abf5_10 : decode mJ0_length_8abf5.2.2.1 10 = .ok (.ireturn, 1) := by decide +kernel
theorem ok_J0_length_8abf5 : e_m mJ0_length_8abf5 0 := ⟨tblG_in (inT3 (List.mem_of_getElem? (i := 198) rfl)) rfl, plainFor_of_name (by decide), rfl, ini_19, by decide +kernel, by decide⟩
theorem d_J0_indexOf_7cf53_17 : decode mJ0_indexOf_7cf53.2.2.1 17 = .ok (.invokestatic 637, 3) := by decide +kernel
def mJ1_indexOf_4cfef : MD := (20, yJ1_indexOf_4cfef, cJ1_indexOf_4cfef, 4, some .int)
theorem s_19_637 : e_siteS 19 637 mJ1_indexOf_4cfef := ⟨tblG_in (inT3 (List.mem_of_getElem? (i := 203) rfl)) rfl, tblG_in (inT3 (List.mem_of_getElem? (i := 204) rfl)) rfl⟩
theorem d_J1_indexOf_4cfef_0 : decode mJ1_indexOf_4cfef.2.2.1 0 = .ok (.iload_n 1, 1) := by decide +kernel
theorem d_J1_indexOf_4cfef_1 : decode mJ1_indexOf_4cfef.2.2.1 1 = .ok (.invokestatic 88, 3) := by decide +kernel
theorem s_20_88 : e_siteS 20 88 mJ1_canEncode_9a6ad := ⟨tblG_in (inT3 (List.mem_of_getElem? (i := 206) rfl)) rfl, tblG_in (inT3 (List.mem_of_getElem? (i := 207) rfl)) rfl⟩
theorem ini_20 : Cond.initialized "java/lang/StringLatin1" ∈ tblG := tblG_in (inT1 (List.mem_of_getElem? (i := 16) rfl)) rfl
theorem ok_J1_canEncode_9a6ad : e_m mJ1_canEncode_9a6ad 1 := ⟨tblG_in (inT3 (List.mem_of_getElem? (i := 208) rfl)) rfl, plainFor_of_name (by decide), rfl, ini_20, by decide +kernel, by decide⟩
theorem d_J1_indexOf_4cfef_4 : decode mJ1_indexOf_4cfef.2.2.1 4 = .ok (.ifCond .ne 5, 3) := by decide +kernel
theorem d_J1_indexOf_4cfef_9 : decode mJ1_indexOf_4cfef.2.2.1 9 = .ok (.iload_n 2, 1) := by decide +kernel
theorem d_J1_indexOf_4cfef_10 : decode mJ1_indexOf_4cfef.2.2.1 10 = .ok (.iconst 0, 1) := by decide +kernel
theorem d_J1_indexOf_4cfef_11 : decode mJ1_indexOf_4cfef.2.2.1 11 = .ok (.invokestatic 92, 3) := by decide +kernel
theorem ml_20_92 : Cond.methodLink (e_cn 20) 92 Lib.Math.max.name ∈ tblG := tblG_in (inT3 (List.mem_of_getElem? (i := 209) rfl)) rfl
theorem d_J1_indexOf_4cfef_14 : decode mJ1_indexOf_4cfef.2.2.1 14 = .ok (.istore_n 2, 1) := by decide +kernel
theorem d_J1_indexOf_4cfef_15 : decode mJ1_indexOf_4cfef.2.2.1 15 = .ok (.iload_n 3, 1) := by decide +kernel
theorem d_J1_indexOf_4cfef_16 : decode mJ1_indexOf_4cfef.2.2.1 16 = .ok (.aload_n 0, 1) := by decide +kernel
theorem d_J1_indexOf_4cfef_17 : decode mJ1_indexOf_4cfef.2.2.1 17 = .ok (.arraylength, 1) := by decide +kernel
theorem d_J1_indexOf_4cfef_18 : decode mJ1_indexOf_4cfef.2.2.1 18 = .ok (.invokestatic 38, 3) := by decide +kernel
theorem ml_20_38 : Cond.methodLink (e_cn 20) 38 Lib.Math.min.name ∈ tblG := tblG_in (inT3 (List.mem_of_getElem? (i := 212) rfl)) rfl
theorem d_J1_indexOf_4cfef_21 : decode mJ1_indexOf_4cfef.2.2.1 21 = .ok (.istore_n 3, 1) := by decide +kernel
theorem d_J1_indexOf_4cfef_22 : decode mJ1_indexOf_4cfef.2.2.1 22 = .ok (.iload_n 2, 1) := by decide +kernel
theorem d_J1_indexOf_4cfef_23 : decode mJ1_indexOf_4cfef.2.2.1 23 = .ok (.iload_n 3, 1) := by decide +kernel
theorem d_J1_indexOf_4cfef_24 : decode mJ1_indexOf_4cfef.2.2.1 24 = .ok (.if_icmp .lt 5, 3) := by decide +kernel
