theorem d_X6_begin_91 : decode mX6_begin.2.2.1 91 = .ok (.iconst 1, 1) := by decide +kernel
theorem d_X6_begin_92 : decode mX6_begin.2.2.1 92 = .ok (.goto 4, 3) := by decide +kernel
theorem d_X1_begin_20 : decode mX1_begin.2.2.1 20 = .ok (.aload_n 0, 1) := by decide +kernel
theorem d_X1_begin_21 : decode mX1_begin.2.2.1 21 = .ok (.getfield 15, 3) := by decide +kernel
theorem d_X1_begin_24 : decode mX1_begin.2.2.1 24 = .ok (.iconst (-1), 1) := by decide +kernel
theorem d_X1_begin_25 : decode mX1_begin.2.2.1 25 = .ok (.invokestatic 45, 3) := by decide +kernel
theorem d_X1_begin_28 : decode mX1_begin.2.2.1 28 = .ok (.aload_n 0, 1) := by decide +kernel
theorem d_X1_begin_29 : decode mX1_begin.2.2.1 29 = .ok (.getfield 18, 3) := by decide +kernel
theorem d_X1_begin_32 : decode mX1_begin.2.2.1 32 = .ok (.iconst (-1), 1) := by decide +kernel
theorem d_X1_begin_33 : decode mX1_begin.2.2.1 33 = .ok (.invokestatic 45, 3) := by decide +kernel
theorem d_X1_begin_36 : decode mX1_begin.2.2.1 36 = .ok (.aload_n 0, 1) := by decide +kernel
theorem d_X1_begin_37 : decode mX1_begin.2.2.1 37 = .ok (.getfield 21, 3) := by decide +kernel
theorem d_X1_begin_40 : decode mX1_begin.2.2.1 40 = .ok (.iconst 0, 1) := by decide +kernel
theorem d_X1_begin_41 : decode mX1_begin.2.2.1 41 = .ok (.invokestatic 45, 3) := by decide +kernel
theorem d_X1_begin_44 : decode mX1_begin.2.2.1 44 = .ok (.aload_n 0, 1) := by decide +kernel
theorem d_X1_begin_45 : decode mX1_begin.2.2.1 45 = .ok (.getfield 24, 3) := by decide +kernel
theorem d_X1_begin_48 : decode mX1_begin.2.2.1 48 = .ok (.iconst 0, 1) := by decide +kernel
theorem d_X1_begin_49 : decode mX1_begin.2.2.1 49 = .ok (.invokestatic 45, 3) := by decide +kernel
theorem d_X1_begin_52 : decode mX1_begin.2.2.1 52 = .ok (.aload_n 0, 1) := by decide +kernel
theorem d_X1_begin_53 : decode mX1_begin.2.2.1 53 = .ok (.getfield 27, 3) := by decide +kernel
theorem d_X1_begin_56 : decode mX1_begin.2.2.1 56 = .ok (.iconst 0, 1) := by decide +kernel
theorem d_X1_begin_57 : decode mX1_begin.2.2.1 57 = .ok (.invokestatic 45, 3) := by decide +kernel
theorem d_X1_begin_60 : decode mX1_begin.2.2.1 60 = .ok (.aload_n 0, 1) := by decide +kernel
theorem d_X1_begin_61 : decode mX1_begin.2.2.1 61 = .ok (.getfield 33, 3) := by decide +kernel
theorem d_X1_begin_64 : decode mX1_begin.2.2.1 64 = .ok (.invokevirtual 51, 3) := by decide +kernel
def mX8_clear : MD := (8, yX8_clear, cX8_clear, 1, none)
theorem sel_X8_clear : Cond.instanceMethod mX8_clear.2.1 ∈ tblG ∧ Cond.selects mX8_clear.2.1.cls mX8_clear.2.1 mX8_clear.2.1 ∈ tblG := ⟨tblG_in (inT5 (List.mem_of_getElem? (i := 2) rfl)) rfl, tblG_in (inT5 (List.mem_of_getElem? (i := 3) rfl)) rfl⟩
theorem s_1_51 : e_siteV 1 51 mX8_clear 8 := ⟨tblG_in (inT5 (List.mem_of_getElem? (i := 1) rfl)) rfl, sel_X8_clear.1, sel_X8_clear.2, rfl⟩
theorem d_X8_clear_0 : decode mX8_clear.2.2.1 0 = .ok (.aload_n 0, 1) := by decide +kernel
theorem d_X8_clear_1 : decode mX8_clear.2.2.1 1 = .ok (.iconst 0, 1) := by decide +kernel
theorem d_X8_clear_2 : decode mX8_clear.2.2.1 2 = .ok (.putfield 43, 3) := by decide +kernel
theorem d_X8_clear_5 : decode mX8_clear.2.2.1 5 = .ok (.aload_n 0, 1) := by decide +kernel
theorem d_X8_clear_6 : decode mX8_clear.2.2.1 6 = .ok (.iconst 0, 1) := by decide +kernel
theorem d_X8_clear_7 : decode mX8_clear.2.2.1 7 = .ok (.putfield 47, 3) := by decide +kernel
theorem f_8_47 : e_fld 8 47 8 7 12 0 false := ⟨RX8, TX8, 7, rfl, rfl, by decide, rfl, rfl, rfl, iX8, tblG_in (inT2 (List.mem_of_getElem? (i := 30) rfl)) rfl, tyX8_ok, nmX8⟩
theorem d_X8_clear_10 : decode mX8_clear.2.2.1 10 = .ok (.aload_n 0, 1) := by decide +kernel
theorem d_X8_clear_11 : decode mX8_clear.2.2.1 11 = .ok (.getfield 28, 3) := by decide +kernel
theorem d_X8_clear_14 : decode mX8_clear.2.2.1 14 = .ok (.iconst (-1), 1) := by decide +kernel
theorem d_X8_clear_15 : decode mX8_clear.2.2.1 15 = .ok (.invokestatic 50, 3) := by decide +kernel
theorem s_8_50 : e_siteS 8 50 mJ7_fill_53178 := ⟨tblG_in (inT5 (List.mem_of_getElem? (i := 5) rfl)) rfl, tblG_in (inT3 (List.mem_of_getElem? (i := 42) rfl)) rfl⟩
theorem d_X8_clear_18 : decode mX8_clear.2.2.1 18 = .ok (.return_, 1) := by decide +kernel
theorem ok_X8_clear : e_m mX8_clear 0 := ⟨tblG_in (inT5 (List.mem_of_getElem? (i := 4) rfl)) rfl, plainFor_of_name (by decide), rfl, ini_8, by decide +kernel, by decide⟩
theorem d_X1_makeRoom_7 : decode mX1_makeRoom.2.2.1 7 = .ok (.aload_n 0, 1) := by decide +kernel
theorem d_X1_makeRoom_8 : decode mX1_makeRoom.2.2.1 8 = .ok (.getfield 33, 3) := by decide +kernel
theorem d_X1_makeRoom_11 : decode mX1_makeRoom.2.2.1 11 = .ok (.invokevirtual 54, 3) := by decide +kernel
def mX8_makeRoom : MD := (8, yX8_makeRoom, cX8_makeRoom, 2, none)
theorem sel_X8_makeRoom : Cond.instanceMethod mX8_makeRoom.2.1 ∈ tblG ∧ Cond.selects mX8_makeRoom.2.1.cls mX8_makeRoom.2.1 mX8_makeRoom.2.1 ∈ tblG := ⟨tblG_in (inT5 (List.mem_of_getElem? (i := 11) rfl)) rfl, tblG_in (inT5 (List.mem_of_getElem? (i := 12) rfl)) rfl⟩
theorem s_1_54 : e_siteV 1 54 mX8_makeRoom 8 := ⟨tblG_in (inT5 (List.mem_of_getElem? (i := 10) rfl)) rfl, sel_X8_makeRoom.1, sel_X8_makeRoom.2, rfl⟩
theorem d_X8_makeRoom_0 : decode mX8_makeRoom.2.2.1 0 = .ok (.aload_n 0, 1) := by decide +kernel
theorem d_X8_makeRoom_1 : decode mX8_makeRoom.2.2.1 1 = .ok (.getfield 47, 3) := by decide +kernel
theorem d_X8_makeRoom_4 : decode mX8_makeRoom.2.2.1 4 = .ok (.aload_n 0, 1) := by decide +kernel
theorem d_X8_makeRoom_5 : decode mX8_makeRoom.2.2.1 5 = .ok (.getfield 31, 3) := by decide +kernel
def mX11_text : MD := (11, yX11_text, cX11_text, 2, some .int)
theorem d_X11_text_0 : decode mX11_text.2.2.1 0 = .ok (.aload_n 0, 1) := by decide +kernel
theorem d_X11_text_1 : decode mX11_text.2.2.1 1 = .ok (.getfield 16, 3) := by decide +kernel
theorem d_X11_text_4 : decode mX11_text.2.2.1 4 = .ok (.aload_n 0, 1) := by decide +kernel
theorem d_X11_text_5 : decode mX11_text.2.2.1 5 = .ok (.getfield 9, 3) := by decide +kernel
theorem d_X11_text_8 : decode mX11_text.2.2.1 8 = .ok (.aload_n 0, 1) := by decide +kernel
theorem d_X11_text_9 : decode mX11_text.2.2.1 9 = .ok (.getfield 84, 3) := by decide +kernel
theorem d_X11_text_12 : decode mX11_text.2.2.1 12 = .ok (.invokevirtual 92, 3) := by decide +kernel
def mX7_takeApart : MD := (7, yX7_takeApart, cX7_takeApart, 8, none)
theorem sel_X7_takeApart : Cond.instanceMethod mX7_takeApart.2.1 ∈ tblG ∧ Cond.selects mX7_takeApart.2.1.cls mX7_takeApart.2.1 mX7_takeApart.2.1 ∈ tblG := ⟨tblG_in (inT3 (List.mem_of_getElem? (i := 108) rfl)) rfl, tblG_in (inT3 (List.mem_of_getElem? (i := 109) rfl)) rfl⟩
theorem s_11_92 : e_siteV 11 92 mX7_takeApart 7 := ⟨tblG_in (inT3 (List.mem_of_getElem? (i := 107) rfl)) rfl, sel_X7_takeApart.1, sel_X7_takeApart.2, rfl⟩
theorem d_X7_takeApart_0 : decode mX7_takeApart.2.2.1 0 = .ok (.aload_n 0, 1) := by decide +kernel
theorem d_X7_takeApart_1 : decode mX7_takeApart.2.2.1 1 = .ok (.aload_n 1, 1) := by decide +kernel
theorem d_X7_takeApart_2 : decode mX7_takeApart.2.2.1 2 = .ok (.putfield 21, 3) := by decide +kernel
theorem f_7_21 : e_fld 7 21 7 4 6 2 false := ⟨RX7, TX7, 4, rfl, rfl, by decide, rfl, rfl, rfl, iX7, tblG_in (inT1 (List.mem_of_getElem? (i := 45) rfl)) rfl, tyX7_ok, nmX7⟩
theorem d_X7_takeApart_5 : decode mX7_takeApart.2.2.1 5 = .ok (.aload_n 0, 1) := by decide +kernel
theorem d_X7_takeApart_6 : decode mX7_takeApart.2.2.1 6 = .ok (.iload_n 2, 1) := by decide +kernel
theorem d_X7_takeApart_7 : decode mX7_takeApart.2.2.1 7 = .ok (.putfield 25, 3) := by decide +kernel
theorem f_7_25 : e_fld 7 25 7 5 6 0 false := ⟨RX7, TX7, 5, rfl, rfl, by decide, rfl, rfl, rfl, iX7, tblG_in (inT1 (List.mem_of_getElem? (i := 46) rfl)) rfl, tyX7_ok, nmX7⟩
theorem d_X7_takeApart_10 : decode mX7_takeApart.2.2.1 10 = .ok (.aload_n 0, 1) := by decide +kernel
theorem d_X7_takeApart_11 : decode mX7_takeApart.2.2.1 11 = .ok (.iconst 0, 1) := by decide +kernel
theorem d_X7_takeApart_12 : decode mX7_takeApart.2.2.1 12 = .ok (.putfield 29, 3) := by decide +kernel
theorem f_7_29 : e_fld 7 29 7 3 6 0 false := ⟨RX7, TX7, 3, rfl, rfl, by decide, rfl, rfl, rfl, iX7, tblG_in (inT1 (List.mem_of_getElem? (i := 44) rfl)) rfl, tyX7_ok, nmX7⟩
theorem d_X7_takeApart_15 : decode mX7_takeApart.2.2.1 15 = .ok (.iconst 0, 1) := by decide +kernel
theorem d_X7_takeApart_16 : decode mX7_takeApart.2.2.1 16 = .ok (.istore_n 3, 1) := by decide +kernel
theorem d_X7_takeApart_17 : decode mX7_takeApart.2.2.1 17 = .ok (.iconst 0, 1) := by decide +kernel
theorem d_X7_takeApart_18 : decode mX7_takeApart.2.2.1 18 = .ok (.istore 4, 2) := by decide +kernel
theorem d_X7_takeApart_20 : decode mX7_takeApart.2.2.1 20 = .ok (.iconst 0, 1) := by decide +kernel
theorem d_X7_takeApart_21 : decode mX7_takeApart.2.2.1 21 = .ok (.istore 5, 2) := by decide +kernel
theorem d_X7_takeApart_23 : decode mX7_takeApart.2.2.1 23 = .ok (.iload 5, 2) := by decide +kernel
theorem d_X7_takeApart_25 : decode mX7_takeApart.2.2.1 25 = .ok (.sipush 900, 3) := by decide +kernel
theorem d_X7_takeApart_28 : decode mX7_takeApart.2.2.1 28 = .ok (.if_icmp .gt 76, 3) := by decide +kernel
theorem d_X7_takeApart_31 : decode mX7_takeApart.2.2.1 31 = .ok (.iload_n 3, 1) := by decide +kernel
theorem d_X7_takeApart_32 : decode mX7_takeApart.2.2.1 32 = .ok (.ifCond .lt 72, 3) := by decide +kernel
theorem d_X7_takeApart_35 : decode mX7_takeApart.2.2.1 35 = .ok (.aload_n 0, 1) := by decide +kernel
theorem d_X7_takeApart_36 : decode mX7_takeApart.2.2.1 36 = .ok (.iload_n 3, 1) := by decide +kernel
theorem d_X7_takeApart_37 : decode mX7_takeApart.2.2.1 37 = .ok (.invokevirtual 32, 3) := by decide +kernel
def mX7_skipBlanks : MD := (7, yX7_skipBlanks, cX7_skipBlanks, 3, some .int)
theorem sel_X7_skipBlanks : Cond.instanceMethod mX7_skipBlanks.2.1 ∈ tblG ∧ Cond.selects mX7_skipBlanks.2.1.cls mX7_skipBlanks.2.1 mX7_skipBlanks.2.1 ∈ tblG := ⟨tblG_in (inT3 (List.mem_of_getElem? (i := 113) rfl)) rfl, tblG_in (inP1 (q := (mX7_skipBlanks.2.1, 6)) (List.mem_of_getElem? (i := 1) rfl)) rfl⟩
theorem s_7_32 : e_siteV 7 32 mX7_skipBlanks 7 := ⟨tblG_in (inT3 (List.mem_of_getElem? (i := 111) rfl)) rfl, sel_X7_skipBlanks.1, sel_X7_skipBlanks.2, rfl⟩
theorem d_X7_skipBlanks_0 : decode mX7_skipBlanks.2.2.1 0 = .ok (.iload_n 1, 1) := by decide +kernel
theorem d_X7_skipBlanks_1 : decode mX7_skipBlanks.2.2.1 1 = .ok (.istore_n 2, 1) := by decide +kernel
theorem d_X7_skipBlanks_2 : decode mX7_skipBlanks.2.2.1 2 = .ok (.iload_n 2, 1) := by decide +kernel
theorem d_X7_skipBlanks_3 : decode mX7_skipBlanks.2.2.1 3 = .ok (.aload_n 0, 1) := by decide +kernel
theorem d_X7_skipBlanks_4 : decode mX7_skipBlanks.2.2.1 4 = .ok (.getfield 25, 3) := by decide +kernel
theorem d_X7_skipBlanks_7 : decode mX7_skipBlanks.2.2.1 7 = .ok (.if_icmp .ge 31, 3) := by decide +kernel
theorem d_X7_skipBlanks_38 : decode mX7_skipBlanks.2.2.1 38 = .ok (.iload_n 2, 1) := by decide +kernel
theorem d_X7_skipBlanks_39 : decode mX7_skipBlanks.2.2.1 39 = .ok (.ireturn, 1) := by decide +kernel
theorem d_X7_skipBlanks_10 : decode mX7_skipBlanks.2.2.1 10 = .ok (.aload_n 0, 1) := by decide +kernel
theorem d_X7_skipBlanks_11 : decode mX7_skipBlanks.2.2.1 11 = .ok (.getfield 21, 3) := by decide +kernel
theorem d_X7_skipBlanks_14 : decode mX7_skipBlanks.2.2.1 14 = .ok (.iload_n 2, 1) := by decide +kernel
theorem d_X7_skipBlanks_15 : decode mX7_skipBlanks.2.2.1 15 = .ok (.baload, 1) := by decide +kernel
theorem d_X7_skipBlanks_16 : decode mX7_skipBlanks.2.2.1 16 = .ok (.bipush 10, 2) := by decide +kernel
theorem d_X7_skipBlanks_18 : decode mX7_skipBlanks.2.2.1 18 = .ok (.if_icmp .eq 14, 3) := by decide +kernel
theorem d_X7_skipBlanks_21 : decode mX7_skipBlanks.2.2.1 21 = .ok (.aload_n 0, 1) := by decide +kernel
theorem d_X7_skipBlanks_22 : decode mX7_skipBlanks.2.2.1 22 = .ok (.getfield 21, 3) := by decide +kernel
theorem d_X7_skipBlanks_25 : decode mX7_skipBlanks.2.2.1 25 = .ok (.iload_n 2, 1) := by decide +kernel
theorem d_X7_skipBlanks_26 : decode mX7_skipBlanks.2.2.1 26 = .ok (.baload, 1) := by decide +kernel
theorem d_X7_skipBlanks_27 : decode mX7_skipBlanks.2.2.1 27 = .ok (.bipush 32, 2) := by decide +kernel
theorem d_X7_skipBlanks_29 : decode mX7_skipBlanks.2.2.1 29 = .ok (.if_icmp .ne 9, 3) := by decide +kernel
theorem d_X7_skipBlanks_32 : decode mX7_skipBlanks.2.2.1 32 = .ok (.iinc 2 1, 3) := by decide +kernel
theorem d_X7_skipBlanks_35 : decode mX7_skipBlanks.2.2.1 35 = .ok (.goto (-33), 3) := by decide +kernel
theorem ok_X7_skipBlanks : e_m mX7_skipBlanks 1 := ⟨tblG_in (inT3 (List.mem_of_getElem? (i := 114) rfl)) rfl, plainFor_of_name (by decide), rfl, ini_7, by decide +kernel, by decide⟩
theorem d_X7_takeApart_40 : decode mX7_takeApart.2.2.1 40 = .ok (.istore 6, 2) := by decide +kernel
theorem d_X7_takeApart_42 : decode mX7_takeApart.2.2.1 42 = .ok (.iload 4, 2) := by decide +kernel
theorem d_X7_takeApart_44 : decode mX7_takeApart.2.2.1 44 = .ok (.ifCond .eq 13, 3) := by decide +kernel
theorem d_X7_takeApart_57 : decode mX7_takeApart.2.2.1 57 = .ok (.iconst 0, 1) := by decide +kernel
theorem d_X7_takeApart_58 : decode mX7_takeApart.2.2.1 58 = .ok (.istore 7, 2) := by decide +kernel
theorem d_X7_takeApart_60 : decode mX7_takeApart.2.2.1 60 = .ok (.aload_n 0, 1) := by decide +kernel
theorem d_X7_takeApart_61 : decode mX7_takeApart.2.2.1 61 = .ok (.iload 6, 2) := by decide +kernel
theorem d_X7_takeApart_63 : decode mX7_takeApart.2.2.1 63 = .ok (.iload 7, 2) := by decide +kernel
theorem d_X7_takeApart_65 : decode mX7_takeApart.2.2.1 65 = .ok (.invokevirtual 36, 3) := by decide +kernel
def mX7_takeOne : MD := (7, yX7_takeOne, cX7_takeOne, 4, some .int)
theorem sel_X7_takeOne : Cond.instanceMethod mX7_takeOne.2.1 ∈ tblG ∧ Cond.selects mX7_takeOne.2.1.cls mX7_takeOne.2.1 mX7_takeOne.2.1 ∈ tblG := ⟨tblG_in (inT3 (List.mem_of_getElem? (i := 117) rfl)) rfl, tblG_in (inP1 (q := (mX7_takeOne.2.1, 6)) (List.mem_of_getElem? (i := 2) rfl)) rfl⟩
theorem s_7_36 : e_siteV 7 36 mX7_takeOne 7 := ⟨tblG_in (inT3 (List.mem_of_getElem? (i := 115) rfl)) rfl, sel_X7_takeOne.1, sel_X7_takeOne.2, rfl⟩
theorem d_X7_takeOne_0 : decode mX7_takeOne.2.2.1 0 = .ok (.iload_n 1, 1) := by decide +kernel
theorem d_X7_takeOne_1 : decode mX7_takeOne.2.2.1 1 = .ok (.aload_n 0, 1) := by decide +kernel
theorem d_X7_takeOne_2 : decode mX7_takeOne.2.2.1 2 = .ok (.getfield 25, 3) := by decide +kernel
theorem d_X7_takeOne_5 : decode mX7_takeOne.2.2.1 5 = .ok (.if_icmp .lt 12, 3) := by decide +kernel
theorem d_X7_takeOne_17 : decode mX7_takeOne.2.2.1 17 = .ok (.aload_n 0, 1) := by decide +kernel
theorem d_X7_takeOne_18 : decode mX7_takeOne.2.2.1 18 = .ok (.getfield 21, 3) := by decide +kernel
theorem d_X7_takeOne_21 : decode mX7_takeOne.2.2.1 21 = .ok (.iload_n 1, 1) := by decide +kernel
theorem d_X7_takeOne_22 : decode mX7_takeOne.2.2.1 22 = .ok (.baload, 1) := by decide +kernel
theorem d_X7_takeOne_23 : decode mX7_takeOne.2.2.1 23 = .ok (.istore_n 3, 1) := by decide +kernel
theorem d_X7_takeOne_24 : decode mX7_takeOne.2.2.1 24 = .ok (.iload_n 3, 1) := by decide +kernel
theorem d_X7_takeOne_25 : decode mX7_takeOne.2.2.1 25 = .ok (.invokestatic 44, 3) := by decide +kernel
def mX7_isLetter : MD := (7, yX7_isLetter, cX7_isLetter, 1, some .boolean)
theorem s_7_44 : e_siteS 7 44 mX7_isLetter := ⟨tblG_in (inT3 (List.mem_of_getElem? (i := 123) rfl)) rfl, tblG_in (inT3 (List.mem_of_getElem? (i := 124) rfl)) rfl⟩
theorem d_X7_isLetter_0 : decode mX7_isLetter.2.2.1 0 = .ok (.iload_n 0, 1) := by decide +kernel
theorem d_X7_isLetter_1 : decode mX7_isLetter.2.2.1 1 = .ok (.bipush 97, 2) := by decide +kernel
theorem d_X7_isLetter_3 : decode mX7_isLetter.2.2.1 3 = .ok (.if_icmp .lt 13, 3) := by decide +kernel
theorem d_X7_isLetter_16 : decode mX7_isLetter.2.2.1 16 = .ok (.iconst 0, 1) := by decide +kernel
theorem d_X7_isLetter_17 : decode mX7_isLetter.2.2.1 17 = .ok (.ireturn, 1) := by decide +kernel
theorem d_X7_isLetter_6 : decode mX7_isLetter.2.2.1 6 = .ok (.iload_n 0, 1) := by decide +kernel
theorem d_X7_isLetter_7 : decode mX7_isLetter.2.2.1 7 = .ok (.bipush 122, 2) := by decide +kernel
theorem d_X7_isLetter_9 : decode mX7_isLetter.2.2.1 9 = .ok (.if_icmp .gt 7, 3) := by decide +kernel
theorem d_X7_isLetter_12 : decode mX7_isLetter.2.2.1 12 = .ok (.iconst 1, 1) := by decide +kernel
theorem d_X7_isLetter_13 : decode mX7_isLetter.2.2.1 13 = .ok (.goto 4, 3) := by decide +kernel
theorem ok_X7_isLetter : e_m mX7_isLetter 1 := ⟨tblG_in (inT3 (List.mem_of_getElem? (i := 125) rfl)) rfl, plainFor_of_name (by decide), rfl, ini_7, by decide +kernel, by decide⟩
theorem d_X7_takeOne_28 : decode mX7_takeOne.2.2.1 28 = .ok (.ifCond .ne 10, 3) := by decide +kernel
theorem d_X7_takeOne_31 : decode mX7_takeOne.2.2.1 31 = .ok (.iload_n 3, 1) := by decide +kernel
theorem d_X7_takeOne_32 : decode mX7_takeOne.2.2.1 32 = .ok (.invokestatic 48, 3) := by decide +kernel
def mX7_isDigit : MD := (7, yX7_isDigit, cX7_isDigit, 1, some .boolean)
theorem s_7_48 : e_siteS 7 48 mX7_isDigit := ⟨tblG_in (inT3 (List.mem_of_getElem? (i := 126) rfl)) rfl, tblG_in (inT3 (List.mem_of_getElem? (i := 127) rfl)) rfl⟩
theorem d_X7_isDigit_0 : decode mX7_isDigit.2.2.1 0 = .ok (.iload_n 0, 1) := by decide +kernel
theorem d_X7_isDigit_1 : decode mX7_isDigit.2.2.1 1 = .ok (.bipush 48, 2) := by decide +kernel
theorem d_X7_isDigit_3 : decode mX7_isDigit.2.2.1 3 = .ok (.if_icmp .lt 13, 3) := by decide +kernel
theorem d_X7_isDigit_16 : decode mX7_isDigit.2.2.1 16 = .ok (.iconst 0, 1) := by decide +kernel
theorem d_X7_isDigit_17 : decode mX7_isDigit.2.2.1 17 = .ok (.ireturn, 1) := by decide +kernel
theorem d_X7_isDigit_6 : decode mX7_isDigit.2.2.1 6 = .ok (.iload_n 0, 1) := by decide +kernel
theorem d_X7_isDigit_7 : decode mX7_isDigit.2.2.1 7 = .ok (.bipush 57, 2) := by decide +kernel
theorem d_X7_isDigit_9 : decode mX7_isDigit.2.2.1 9 = .ok (.if_icmp .gt 7, 3) := by decide +kernel
theorem d_X7_isDigit_12 : decode mX7_isDigit.2.2.1 12 = .ok (.iconst 1, 1) := by decide +kernel
theorem d_X7_isDigit_13 : decode mX7_isDigit.2.2.1 13 = .ok (.goto 4, 3) := by decide +kernel
theorem ok_X7_isDigit : e_m mX7_isDigit 1 := ⟨tblG_in (inT3 (List.mem_of_getElem? (i := 128) rfl)) rfl, plainFor_of_name (by decide), rfl, ini_7, by decide +kernel, by decide⟩
theorem d_X7_takeOne_35 : decode mX7_takeOne.2.2.1 35 = .ok (.ifCond .eq 37, 3) := by decide +kernel
theorem d_X7_takeOne_72 : decode mX7_takeOne.2.2.1 72 = .ok (.iload_n 3, 1) := by decide +kernel
theorem d_X7_takeOne_73 : decode mX7_takeOne.2.2.1 73 = .ok (.ifCond .le 24, 3) := by decide +kernel
theorem d_X7_takeOne_76 : decode mX7_takeOne.2.2.1 76 = .ok (.ldc 57, 2) := by decide +kernel
theorem d_X7_takeOne_78 : decode mX7_takeOne.2.2.1 78 = .ok (.iload_n 3, 1) := by decide +kernel
theorem d_X7_takeOne_79 : decode mX7_takeOne.2.2.1 79 = .ok (.i2c, 1) := by decide +kernel
theorem d_X7_takeOne_80 : decode mX7_takeOne.2.2.1 80 = .ok (.invokevirtual 59, 3) := by decide +kernel
def mJ0_indexOf_0f7a4 : MD := (19, yJ0_indexOf_0f7a4, cJ0_indexOf_0f7a4, 2, some .int)
theorem sel_J0_indexOf_0f7a4 : Cond.instanceMethod mJ0_indexOf_0f7a4.2.1 ∈ tblG ∧ Cond.selects mJ0_indexOf_0f7a4.2.1.cls mJ0_indexOf_0f7a4.2.1 mJ0_indexOf_0f7a4.2.1 ∈ tblG := ⟨tblG_in (inT3 (List.mem_of_getElem? (i := 188) rfl)) rfl, tblG_in (inT3 (List.mem_of_getElem? (i := 189) rfl)) rfl⟩
theorem d_J0_indexOf_0f7a4_0 : decode mJ0_indexOf_0f7a4.2.2.1 0 = .ok (.aload_n 0, 1) := by decide +kernel
theorem d_J0_indexOf_0f7a4_1 : decode mJ0_indexOf_0f7a4.2.2.1 1 = .ok (.iload_n 1, 1) := by decide +kernel
theorem d_J0_indexOf_0f7a4_2 : decode mJ0_indexOf_0f7a4.2.2.1 2 = .ok (.iconst 0, 1) := by decide +kernel
theorem d_J0_indexOf_0f7a4_3 : decode mJ0_indexOf_0f7a4.2.2.1 3 = .ok (.invokevirtual 633, 3) := by decide +kernel
def mJ0_indexOf_7cf53 : MD := (19, yJ0_indexOf_7cf53, cJ0_indexOf_7cf53, 3, some .int)
theorem sel_J0_indexOf_7cf53 : Cond.instanceMethod mJ0_indexOf_7cf53.2.1 ∈ tblG ∧ Cond.selects mJ0_indexOf_7cf53.2.1.cls mJ0_indexOf_7cf53.2.1 mJ0_indexOf_7cf53.2.1 ∈ tblG := ⟨tblG_in (inT3 (List.mem_of_getElem? (i := 192) rfl)) rfl, tblG_in (inT3 (List.mem_of_getElem? (i := 193) rfl)) rfl⟩
theorem d_J0_indexOf_7cf53_0 : decode mJ0_indexOf_7cf53.2.2.1 0 = .ok (.aload_n 0, 1) := by decide +kernel
theorem d_J0_indexOf_7cf53_1 : decode mJ0_indexOf_7cf53.2.2.1 1 = .ok (.invokevirtual 492, 3) := by decide +kernel
def mJ0_isLatin1_aae02 : MD := (19, yJ0_isLatin1_aae02, cJ0_isLatin1_aae02, 1, some .boolean)
theorem sel_J0_isLatin1_aae02 : Cond.instanceMethod mJ0_isLatin1_aae02.2.1 ∈ tblG ∧ Cond.selects mJ0_isLatin1_aae02.2.1.cls mJ0_isLatin1_aae02.2.1 mJ0_isLatin1_aae02.2.1 ∈ tblG := ⟨tblG_in (inT3 (List.mem_of_getElem? (i := 147) rfl)) rfl, tblG_in (inT3 (List.mem_of_getElem? (i := 148) rfl)) rfl⟩
theorem d_J0_isLatin1_aae02_0 : decode mJ0_isLatin1_aae02.2.2.1 0 = .ok (.getstatic 38, 3) := by decide +kernel
theorem d_J0_isLatin1_aae02_3 : decode mJ0_isLatin1_aae02.2.2.1 3 = .ok (.ifCond .eq 14, 3) := by decide +kernel
theorem d_J0_isLatin1_aae02_6 : decode mJ0_isLatin1_aae02.2.2.1 6 = .ok (.aload_n 0, 1) := by decide +kernel
theorem d_J0_isLatin1_aae02_7 : decode mJ0_isLatin1_aae02.2.2.1 7 = .ok (.getfield 15, 3) := by decide +kernel
theorem d_J0_isLatin1_aae02_10 : decode mJ0_isLatin1_aae02.2.2.1 10 = .ok (.ifCond .ne 7, 3) := by decide +kernel
theorem d_J0_isLatin1_aae02_13 : decode mJ0_isLatin1_aae02.2.2.1 13 = .ok (.iconst 1, 1) := by decide +kernel
theorem d_J0_isLatin1_aae02_14 : decode mJ0_isLatin1_aae02.2.2.1 14 = .ok (.goto 4, 3) := by decide +kernel
theorem d_J0_isLatin1_aae02_18 : decode mJ0_isLatin1_aae02.2.2.1 18 = .ok (.ireturn, 1) := by decide +kernel
theorem ini_19 : Cond.initialized "java/lang/String" ∈ tblG := tblG_in (inT1 (List.mem_of_getElem? (i := 15) rfl)) rfl
theorem ok_J0_isLatin1_aae02 : e_m mJ0_isLatin1_aae02 0 := ⟨tblG_in (inT3 (List.mem_of_getElem? (i := 149) rfl)) rfl, plainFor_of_name (by decide), rfl, ini_19, by decide +kernel, by decide⟩
theorem d_J0_indexOf_7cf53_4 : decode mJ0_indexOf_7cf53.2.2.1 4 = .ok (.ifCond .eq 19, 3) := by decide +kernel
theorem d_J0_indexOf_7cf53_7 : decode mJ0_indexOf_7cf53.2.2.1 7 = .ok (.aload_n 0, 1) := by decide +kernel
theorem d_J0_indexOf_7cf53_8 : decode mJ0_indexOf_7cf53.2.2.1 8 = .ok (.getfield 9, 3) := by decide +kernel
theorem d_J0_indexOf_7cf53_11 : decode mJ0_indexOf_7cf53.2.2.1 11 = .ok (.iload_n 1, 1) := by decide +kernel
theorem d_J0_indexOf_7cf53_12 : decode mJ0_indexOf_7cf53.2.2.1 12 = .ok (.iload_n 2, 1) := by decide +kernel
theorem d_J0_indexOf_7cf53_13 : decode mJ0_indexOf_7cf53.2.2.1 13 = .ok (.aload_n 0, 1) := by decide +kernel
theorem d_J0_indexOf_7cf53_14 : decode mJ0_indexOf_7cf53.2.2.1 14 = .ok (.invokevirtual 505, 3) := by decide +kernel
def mJ0_length_8abf5 : MD := (19, yJ0_length_8abf5, cJ0_length_8abf5, 1, some .int)
theorem sel_J0_length_8abf5 : Cond.instanceMethod mJ0_length_8abf5.2.1 ∈ tblG ∧ Cond.selects mJ0_length_8abf5.2.1.cls mJ0_length_8abf5.2.1 mJ0_length_8abf5.2.1 ∈ tblG := ⟨tblG_in (inT3 (List.mem_of_getElem? (i := 196) rfl)) rfl, tblG_in (inT3 (List.mem_of_getElem? (i := 197) rfl)) rfl⟩
theorem d_J0_length_8abf5_0 : decode mJ0_length_8abf5.2.2.1 0 = .ok (.aload_n 0, 1) := by decide +kernel
theorem d_J0_length_8abf5_1 : decode mJ0_length_8abf5.2.2.1 1 = .ok (.getfield 9, 3) := by decide +kernel
theorem d_J0_length_8abf5_4 : decode mJ0_length_8abf5.2.2.1 4 = .ok (.arraylength, 1) := by decide +kernel
theorem d_J0_length_8abf5_5 : decode mJ0_length_8abf5.2.2.1 5 = .ok (.aload_n 0, 1) := by decide +kernel
theorem d_J0_length_8abf5_6 : decode mJ0_length_8abf5.2.2.1 6 = .ok (.invokevirtual 335, 3) := by decide +kernel
def mJ0_coder_7d493 : MD := (19, yJ0_coder_7d493, cJ0_coder_7d493, 1, some .byte)
theorem sel_J0_coder_7d493 : Cond.instanceMethod mJ0_coder_7d493.2.1 ∈ tblG ∧ Cond.selects mJ0_coder_7d493.2.1.cls mJ0_coder_7d493.2.1 mJ0_coder_7d493.2.1 ∈ tblG := ⟨tblG_in (inT3 (List.mem_of_getElem? (i := 200) rfl)) rfl, tblG_in (inT3 (List.mem_of_getElem? (i := 201) rfl)) rfl⟩
theorem d_J0_coder_7d493_0 : decode mJ0_coder_7d493.2.2.1 0 = .ok (.getstatic 38, 3) := by decide +kernel
theorem d_J0_coder_7d493_3 : decode mJ0_coder_7d493.2.2.1 3 = .ok (.ifCond .eq 10, 3) := by decide +kernel
theorem d_J0_coder_7d493_6 : decode mJ0_coder_7d493.2.2.1 6 = .ok (.aload_n 0, 1) := by decide +kernel
theorem d_J0_coder_7d493_7 : decode mJ0_coder_7d493.2.2.1 7 = .ok (.getfield 15, 3) := by decide +kernel
theorem d_J0_coder_7d493_10 : decode mJ0_coder_7d493.2.2.1 10 = .ok (.goto 4, 3) := by decide +kernel
theorem d_J0_coder_7d493_14 : decode mJ0_coder_7d493.2.2.1 14 = .ok (.ireturn, 1) := by decide +kernel
theorem ok_J0_coder_7d493 : e_m mJ0_coder_7d493 0 := ⟨tblG_in (inT3 (List.mem_of_getElem? (i := 202) rfl)) rfl, plainFor_of_name (by decide), rfl, ini_19, by decide +kernel, by decide⟩
theorem d_J0_length_8abf5_9 : decode mJ0_length_8abf5.2.2.1 9 = .ok (.ishr, 1) := by decide +kernel
theorem d_J0_length_8abf5_10 : decode mJ0_length_8abf5.2.2.1 10 = .ok (.ireturn, 1) := by decide +kernel
theorem ok_J0_length_8abf5 : e_m mJ0_length_8abf5 0 := ⟨tblG_in (inT3 (List.mem_of_getElem? (i := 198) rfl)) rfl, plainFor_of_name (by decide), rfl, ini_19, by decide +kernel, by decide⟩
theorem d_J0_indexOf_7cf53_17 : decode mJ0_indexOf_7cf53.2.2.1 17 = .ok (.invokestatic 637, 3) := by decide +kernel
def mJ1_indexOf_4cfef : MD := (20, yJ1_indexOf_4cfef, cJ1_indexOf_4cfef, 4, some .int)
theorem s_19_637 : e_siteS 19 637 mJ1_indexOf_4cfef := ⟨tblG_in (inT3 (List.mem_of_getElem? (i := 203) rfl)) rfl, tblG_in (inT3 (List.mem_of_getElem? (i := 204) rfl)) rfl⟩
theorem d_J1_indexOf_4cfef_0 : decode mJ1_indexOf_4cfef.2.2.1 0 = .ok (.iload_n 1, 1) := by decide +kernel
theorem d_J1_indexOf_4cfef_1 : decode mJ1_indexOf_4cfef.2.2.1 1 = .ok (.invokestatic 88, 3) := by decide +kernel
def mJ1_canEncode_9a6ad : MD := (20, yJ1_canEncode_9a6ad, cJ1_canEncode_9a6ad, 1, some .boolean)
theorem s_20_88 : e_siteS 20 88 mJ1_canEncode_9a6ad := ⟨tblG_in (inT3 (List.mem_of_getElem? (i := 206) rfl)) rfl, tblG_in (inT3 (List.mem_of_getElem? (i := 207) rfl)) rfl⟩
theorem d_J1_canEncode_9a6ad_0 : decode mJ1_canEncode_9a6ad.2.2.1 0 = .ok (.iload_n 0, 1) := by decide +kernel
