theorem d_X11_run_24 : decode mX11_run.2.2.1 24 = .ok (.aload_n 0, 1) := by decide +kernel
theorem d_X11_run_25 : decode mX11_run.2.2.1 25 = .ok (.getfield 56, 3) := by decide +kernel
theorem d_X11_run_28 : decode mX11_run.2.2.1 28 = .ok (.invokevirtual 148, 3) := by decide +kernel
def mX9_clear : MD := (9, yX9_clear, cX9_clear, 1, none)
theorem sel_X9_clear : Cond.instanceMethod mX9_clear.2.1 ∈ tblG ∧ Cond.selects mX9_clear.2.1.cls mX9_clear.2.1 mX9_clear.2.1 ∈ tblG := ⟨tblG_in (inT5 (List.mem_of_getElem? (i := 162) rfl)) rfl, tblG_in (inT5 (List.mem_of_getElem? (i := 163) rfl)) rfl⟩
theorem s_11_148 : e_siteV 11 148 mX9_clear 9 := ⟨tblG_in (inT5 (List.mem_of_getElem? (i := 161) rfl)) rfl, sel_X9_clear.1, sel_X9_clear.2, rfl⟩
theorem d_X9_clear_0 : decode mX9_clear.2.2.1 0 = .ok (.aload_n 0, 1) := by decide +kernel
theorem d_X9_clear_1 : decode mX9_clear.2.2.1 1 = .ok (.iconst (-1), 1) := by decide +kernel
theorem d_X9_clear_2 : decode mX9_clear.2.2.1 2 = .ok (.putfield 19, 3) := by decide +kernel
theorem d_X9_clear_5 : decode mX9_clear.2.2.1 5 = .ok (.return_, 1) := by decide +kernel
theorem ok_X9_clear : e_m mX9_clear 0 := ⟨tblG_in (inT5 (List.mem_of_getElem? (i := 164) rfl)) rfl, plainFor_of_name (by decide), rfl, ini_9, by decide +kernel, by decide⟩
theorem d_X11_run_31 : decode mX11_run.2.2.1 31 = .ok (.aload_n 0, 1) := by decide +kernel
theorem d_X11_run_32 : decode mX11_run.2.2.1 32 = .ok (.iconst 1, 1) := by decide +kernel
theorem d_X11_run_33 : decode mX11_run.2.2.1 33 = .ok (.putfield 109, 3) := by decide +kernel
theorem d_X11_run_36 : decode mX11_run.2.2.1 36 = .ok (.aload_n 0, 1) := by decide +kernel
theorem d_X11_run_37 : decode mX11_run.2.2.1 37 = .ok (.getfield 46, 3) := by decide +kernel
theorem d_X11_run_40 : decode mX11_run.2.2.1 40 = .ok (.getfield 149, 3) := by decide +kernel
theorem f_11_149 : e_fld 11 149 6 14 18 0 false := ⟨RX6, TX6, 14, rfl, rfl, by decide, rfl, rfl, rfl, iX6, tblG_in (inT2 (List.mem_of_getElem? (i := 122) rfl)) rfl, tyX6_ok, nmX6⟩
theorem d_X11_run_43 : decode mX11_run.2.2.1 43 = .ok (.ireturn, 1) := by decide +kernel
theorem d_X11_run_5 : decode mX11_run.2.2.1 5 = .ok (.bipush (-2), 2) := by decide +kernel
theorem d_X11_run_7 : decode mX11_run.2.2.1 7 = .ok (.ireturn, 1) := by decide +kernel
theorem f_7_21 : e_fld 7 21 7 4 6 2 false := ⟨RX7, TX7, 4, rfl, rfl, by decide, rfl, rfl, rfl, iX7, tblG_in (inT1 (List.mem_of_getElem? (i := 45) rfl)) rfl, tyX7_ok, nmX7⟩
theorem f_7_25 : e_fld 7 25 7 5 6 0 false := ⟨RX7, TX7, 5, rfl, rfl, by decide, rfl, rfl, rfl, iX7, tblG_in (inT1 (List.mem_of_getElem? (i := 46) rfl)) rfl, tyX7_ok, nmX7⟩
theorem f_7_29 : e_fld 7 29 7 3 6 0 false := ⟨RX7, TX7, 3, rfl, rfl, by decide, rfl, rfl, rfl, iX7, tblG_in (inT1 (List.mem_of_getElem? (i := 44) rfl)) rfl, tyX7_ok, nmX7⟩
def mX7_skipBlanks : MD := (7, yX7_skipBlanks, cX7_skipBlanks, 3, some .int)
theorem d_X7_skipBlanks_0 : decode mX7_skipBlanks.2.2.1 0 = .ok (.iload_n 1, 1) := by decide +kernel
theorem d_X7_skipBlanks_1 : decode mX7_skipBlanks.2.2.1 1 = .ok (.istore_n 2, 1) := by decide +kernel
theorem d_X7_skipBlanks_2 : decode mX7_skipBlanks.2.2.1 2 = .ok (.iload_n 2, 1) := by decide +kernel
theorem d_X7_skipBlanks_3 : decode mX7_skipBlanks.2.2.1 3 = .ok (.aload_n 0, 1) := by decide +kernel
theorem d_X7_skipBlanks_4 : decode mX7_skipBlanks.2.2.1 4 = .ok (.getfield 25, 3) := by decide +kernel
theorem d_X7_skipBlanks_7 : decode mX7_skipBlanks.2.2.1 7 = .ok (.if_icmp .ge 31, 3) := by decide +kernel
theorem d_X7_skipBlanks_38 : decode mX7_skipBlanks.2.2.1 38 = .ok (.iload_n 2, 1) := by decide +kernel
theorem d_X7_skipBlanks_39 : decode mX7_skipBlanks.2.2.1 39 = .ok (.ireturn, 1) := by decide +kernel
theorem d_X7_skipBlanks_10 : decode mX7_skipBlanks.2.2.1 10 = .ok (.aload_n 0, 1) := by decide +kernel
theorem d_X7_skipBlanks_11 : decode mX7_skipBlanks.2.2.1 11 = .ok (.getfield 21, 3) := by decide +kernel
theorem d_X7_skipBlanks_14 : decode mX7_skipBlanks.2.2.1 14 = .ok (.iload_n 2, 1) := by decide +kernel
theorem d_X7_skipBlanks_15 : decode mX7_skipBlanks.2.2.1 15 = .ok (.baload, 1) := by decide +kernel
theorem d_X7_skipBlanks_16 : decode mX7_skipBlanks.2.2.1 16 = .ok (.bipush 10, 2) := by decide +kernel
theorem d_X7_skipBlanks_18 : decode mX7_skipBlanks.2.2.1 18 = .ok (.if_icmp .eq 14, 3) := by decide +kernel
theorem d_X7_skipBlanks_21 : decode mX7_skipBlanks.2.2.1 21 = .ok (.aload_n 0, 1) := by decide +kernel
theorem d_X7_skipBlanks_22 : decode mX7_skipBlanks.2.2.1 22 = .ok (.getfield 21, 3) := by decide +kernel
theorem d_X7_skipBlanks_25 : decode mX7_skipBlanks.2.2.1 25 = .ok (.iload_n 2, 1) := by decide +kernel
theorem d_X7_skipBlanks_26 : decode mX7_skipBlanks.2.2.1 26 = .ok (.baload, 1) := by decide +kernel
theorem d_X7_skipBlanks_27 : decode mX7_skipBlanks.2.2.1 27 = .ok (.bipush 32, 2) := by decide +kernel
theorem d_X7_skipBlanks_29 : decode mX7_skipBlanks.2.2.1 29 = .ok (.if_icmp .ne 9, 3) := by decide +kernel
theorem d_X7_skipBlanks_32 : decode mX7_skipBlanks.2.2.1 32 = .ok (.iinc 2 1, 3) := by decide +kernel
theorem d_X7_skipBlanks_35 : decode mX7_skipBlanks.2.2.1 35 = .ok (.goto (-33), 3) := by decide +kernel
def mX7_isLetter : MD := (7, yX7_isLetter, cX7_isLetter, 1, some .boolean)
theorem d_X7_isLetter_0 : decode mX7_isLetter.2.2.1 0 = .ok (.iload_n 0, 1) := by decide +kernel
theorem d_X7_isLetter_1 : decode mX7_isLetter.2.2.1 1 = .ok (.bipush 97, 2) := by decide +kernel
theorem d_X7_isLetter_3 : decode mX7_isLetter.2.2.1 3 = .ok (.if_icmp .lt 13, 3) := by decide +kernel
theorem d_X7_isLetter_16 : decode mX7_isLetter.2.2.1 16 = .ok (.iconst 0, 1) := by decide +kernel
theorem d_X7_isLetter_17 : decode mX7_isLetter.2.2.1 17 = .ok (.ireturn, 1) := by decide +kernel
theorem d_X7_isLetter_6 : decode mX7_isLetter.2.2.1 6 = .ok (.iload_n 0, 1) := by decide +kernel
theorem d_X7_isLetter_7 : decode mX7_isLetter.2.2.1 7 = .ok (.bipush 122, 2) := by decide +kernel
theorem d_X7_isLetter_9 : decode mX7_isLetter.2.2.1 9 = .ok (.if_icmp .gt 7, 3) := by decide +kernel
theorem d_X7_isLetter_12 : decode mX7_isLetter.2.2.1 12 = .ok (.iconst 1, 1) := by decide +kernel
theorem d_X7_isLetter_13 : decode mX7_isLetter.2.2.1 13 = .ok (.goto 4, 3) := by decide +kernel
def mX7_isDigit : MD := (7, yX7_isDigit, cX7_isDigit, 1, some .boolean)
theorem s_7_48 : e_siteS 7 48 mX7_isDigit := ⟨tblG_in (inT3 (List.mem_of_getElem? (i := 126) rfl)) rfl, tblG_in (inT3 (List.mem_of_getElem? (i := 127) rfl)) rfl⟩
theorem d_X7_isDigit_0 : decode mX7_isDigit.2.2.1 0 = .ok (.iload_n 0, 1) := by decide +kernel
theorem d_X7_isDigit_1 : decode mX7_isDigit.2.2.1 1 = .ok (.bipush 48, 2) := by decide +kernel
theorem d_X7_isDigit_3 : decode mX7_isDigit.2.2.1 3 = .ok (.if_icmp .lt 13, 3) := by decide +kernel
theorem d_X7_isDigit_16 : decode mX7_isDigit.2.2.1 16 = .ok (.iconst 0, 1) := by decide +kernel
theorem d_X7_isDigit_17 : decode mX7_isDigit.2.2.1 17 = .ok (.ireturn, 1) := by decide +kernel
theorem d_X7_isDigit_6 : decode mX7_isDigit.2.2.1 6 = .ok (.iload_n 0, 1) := by decide +kernel
theorem d_X7_isDigit_7 : decode mX7_isDigit.2.2.1 7 = .ok (.bipush 57, 2) := by decide +kernel
theorem d_X7_isDigit_9 : decode mX7_isDigit.2.2.1 9 = .ok (.if_icmp .gt 7, 3) := by decide +kernel
theorem d_X7_isDigit_12 : decode mX7_isDigit.2.2.1 12 = .ok (.iconst 1, 1) := by decide +kernel
theorem d_X7_isDigit_13 : decode mX7_isDigit.2.2.1 13 = .ok (.goto 4, 3) := by decide +kernel
theorem ok_X7_isDigit : e_m mX7_isDigit 1 := ⟨tblG_in (inT3 (List.mem_of_getElem? (i := 128) rfl)) rfl, plainFor_of_name (by decide), rfl, ini_7, by decide +kernel, by decide⟩
def mJ1_canEncode_9a6ad : MD := (20, yJ1_canEncode_9a6ad, cJ1_canEncode_9a6ad, 1, some .boolean)
theorem d_J1_canEncode_9a6ad_0 : decode mJ1_canEncode_9a6ad.2.2.1 0 = .ok (.iload_n 0, 1) := by decide +kernel
theorem d_J1_canEncode_9a6ad_1 : decode mJ1_canEncode_9a6ad.2.2.1 1 = .ok (.ifCond .lt 14, 3) := by decide +kernel
theorem d_J1_canEncode_9a6ad_4 : decode mJ1_canEncode_9a6ad.2.2.1 4 = .ok (.iload_n 0, 1) := by decide +kernel
theorem d_J1_canEncode_9a6ad_5 : decode mJ1_canEncode_9a6ad.2.2.1 5 = .ok (.sipush 255, 3) := by decide +kernel
theorem d_J1_canEncode_9a6ad_8 : decode mJ1_canEncode_9a6ad.2.2.1 8 = .ok (.if_icmp .gt 7, 3) := by decide +kernel
theorem d_J1_canEncode_9a6ad_11 : decode mJ1_canEncode_9a6ad.2.2.1 11 = .ok (.iconst 1, 1) := by decide +kernel
theorem d_J1_canEncode_9a6ad_12 : decode mJ1_canEncode_9a6ad.2.2.1 12 = .ok (.goto 4, 3) := by decide +kernel
theorem d_J1_canEncode_9a6ad_16 : decode mJ1_canEncode_9a6ad.2.2.1 16 = .ok (.ireturn, 1) := by decide +kernel
def mX7_add : MD := (7, yX7_add, cX7_add, 5, some .int)
theorem sel_X7_add : Cond.instanceMethod mX7_add.2.1 ∈ tblG ∧ Cond.selects mX7_add.2.1.cls mX7_add.2.1 mX7_add.2.1 ∈ tblG := ⟨tblG_in (inT3 (List.mem_of_getElem? (i := 121) rfl)) rfl, tblG_in (inP1 (q := (mX7_add.2.1, 6)) (List.mem_of_getElem? (i := 3) rfl)) rfl⟩
theorem s_7_40 : e_siteV 7 40 mX7_add 7 := ⟨tblG_in (inT3 (List.mem_of_getElem? (i := 119) rfl)) rfl, sel_X7_add.1, sel_X7_add.2, rfl⟩
theorem d_X7_add_0 : decode mX7_add.2.2.1 0 = .ok (.aload_n 0, 1) := by decide +kernel
theorem d_X7_add_1 : decode mX7_add.2.2.1 1 = .ok (.getfield 29, 3) := by decide +kernel
theorem d_X7_add_4 : decode mX7_add.2.2.1 4 = .ok (.aload_n 0, 1) := by decide +kernel
theorem d_X7_add_5 : decode mX7_add.2.2.1 5 = .ok (.getfield 9, 3) := by decide +kernel
theorem d_X7_add_8 : decode mX7_add.2.2.1 8 = .ok (.arraylength, 1) := by decide +kernel
theorem d_X7_add_9 : decode mX7_add.2.2.1 9 = .ok (.if_icmp .ge 43, 3) := by decide +kernel
theorem d_X7_add_52 : decode mX7_add.2.2.1 52 = .ok (.iload 4, 2) := by decide +kernel
theorem d_X7_add_54 : decode mX7_add.2.2.1 54 = .ok (.ireturn, 1) := by decide +kernel
theorem d_X7_add_12 : decode mX7_add.2.2.1 12 = .ok (.aload_n 0, 1) := by decide +kernel
theorem d_X7_add_13 : decode mX7_add.2.2.1 13 = .ok (.getfield 9, 3) := by decide +kernel
theorem d_X7_add_16 : decode mX7_add.2.2.1 16 = .ok (.aload_n 0, 1) := by decide +kernel
theorem d_X7_add_17 : decode mX7_add.2.2.1 17 = .ok (.getfield 29, 3) := by decide +kernel
theorem d_X7_add_20 : decode mX7_add.2.2.1 20 = .ok (.iload_n 1, 1) := by decide +kernel
theorem d_X7_add_21 : decode mX7_add.2.2.1 21 = .ok (.iastore, 1) := by decide +kernel
theorem d_X7_add_22 : decode mX7_add.2.2.1 22 = .ok (.aload_n 0, 1) := by decide +kernel
theorem d_X7_add_23 : decode mX7_add.2.2.1 23 = .ok (.getfield 15, 3) := by decide +kernel
theorem d_X7_add_26 : decode mX7_add.2.2.1 26 = .ok (.aload_n 0, 1) := by decide +kernel
theorem d_X7_add_27 : decode mX7_add.2.2.1 27 = .ok (.getfield 29, 3) := by decide +kernel
theorem d_X7_add_30 : decode mX7_add.2.2.1 30 = .ok (.iload_n 2, 1) := by decide +kernel
theorem d_X7_add_31 : decode mX7_add.2.2.1 31 = .ok (.iastore, 1) := by decide +kernel
theorem d_X7_add_32 : decode mX7_add.2.2.1 32 = .ok (.aload_n 0, 1) := by decide +kernel
theorem d_X7_add_33 : decode mX7_add.2.2.1 33 = .ok (.getfield 18, 3) := by decide +kernel
theorem d_X7_add_36 : decode mX7_add.2.2.1 36 = .ok (.aload_n 0, 1) := by decide +kernel
theorem d_X7_add_37 : decode mX7_add.2.2.1 37 = .ok (.getfield 29, 3) := by decide +kernel
theorem d_X7_add_40 : decode mX7_add.2.2.1 40 = .ok (.iload_n 3, 1) := by decide +kernel
theorem d_X7_add_41 : decode mX7_add.2.2.1 41 = .ok (.iastore, 1) := by decide +kernel
theorem d_X7_add_42 : decode mX7_add.2.2.1 42 = .ok (.aload_n 0, 1) := by decide +kernel
theorem d_X7_add_43 : decode mX7_add.2.2.1 43 = .ok (.dup, 1) := by decide +kernel
theorem d_X7_add_44 : decode mX7_add.2.2.1 44 = .ok (.getfield 29, 3) := by decide +kernel
theorem d_X7_add_47 : decode mX7_add.2.2.1 47 = .ok (.iconst 1, 1) := by decide +kernel
theorem d_X7_add_48 : decode mX7_add.2.2.1 48 = .ok (.iadd, 1) := by decide +kernel
theorem d_X7_add_49 : decode mX7_add.2.2.1 49 = .ok (.putfield 29, 3) := by decide +kernel
theorem ok_X7_add : e_m mX7_add 4 := ⟨tblG_in (inT3 (List.mem_of_getElem? (i := 122) rfl)) rfl, plainFor_of_name (by decide), rfl, ini_7, by decide +kernel, by decide⟩
def mX7_takeNumber : MD := (7, yX7_takeNumber, cX7_takeNumber, 4, some .int)
theorem d_X7_takeNumber_0 : decode mX7_takeNumber.2.2.1 0 = .ok (.iload_n 1, 1) := by decide +kernel
theorem d_X7_takeNumber_1 : decode mX7_takeNumber.2.2.1 1 = .ok (.istore_n 2, 1) := by decide +kernel
theorem d_X7_takeNumber_2 : decode mX7_takeNumber.2.2.1 2 = .ok (.iconst 0, 1) := by decide +kernel
theorem d_X7_takeNumber_3 : decode mX7_takeNumber.2.2.1 3 = .ok (.istore_n 3, 1) := by decide +kernel
theorem d_X7_takeNumber_4 : decode mX7_takeNumber.2.2.1 4 = .ok (.iload_n 2, 1) := by decide +kernel
theorem d_X7_takeNumber_5 : decode mX7_takeNumber.2.2.1 5 = .ok (.aload_n 0, 1) := by decide +kernel
theorem d_X7_takeNumber_6 : decode mX7_takeNumber.2.2.1 6 = .ok (.getfield 25, 3) := by decide +kernel
theorem d_X7_takeNumber_9 : decode mX7_takeNumber.2.2.1 9 = .ok (.if_icmp .ge 43, 3) := by decide +kernel
theorem d_X7_takeNumber_12 : decode mX7_takeNumber.2.2.1 12 = .ok (.iload_n 2, 1) := by decide +kernel
theorem d_X7_takeNumber_13 : decode mX7_takeNumber.2.2.1 13 = .ok (.iload_n 1, 1) := by decide +kernel
theorem d_X7_takeNumber_14 : decode mX7_takeNumber.2.2.1 14 = .ok (.iconst 4, 1) := by decide +kernel
theorem d_X7_takeNumber_15 : decode mX7_takeNumber.2.2.1 15 = .ok (.iadd, 1) := by decide +kernel
theorem d_X7_takeNumber_16 : decode mX7_takeNumber.2.2.1 16 = .ok (.if_icmp .gt 36, 3) := by decide +kernel
theorem d_X7_takeNumber_19 : decode mX7_takeNumber.2.2.1 19 = .ok (.aload_n 0, 1) := by decide +kernel
theorem d_X7_takeNumber_20 : decode mX7_takeNumber.2.2.1 20 = .ok (.getfield 21, 3) := by decide +kernel
theorem d_X7_takeNumber_23 : decode mX7_takeNumber.2.2.1 23 = .ok (.iload_n 2, 1) := by decide +kernel
theorem d_X7_takeNumber_24 : decode mX7_takeNumber.2.2.1 24 = .ok (.baload, 1) := by decide +kernel
theorem d_X7_takeNumber_25 : decode mX7_takeNumber.2.2.1 25 = .ok (.invokestatic 48, 3) := by decide +kernel
theorem d_X7_takeNumber_28 : decode mX7_takeNumber.2.2.1 28 = .ok (.ifCond .eq 24, 3) := by decide +kernel
theorem d_X7_takeNumber_31 : decode mX7_takeNumber.2.2.1 31 = .ok (.iload_n 3, 1) := by decide +kernel
theorem d_X7_takeNumber_32 : decode mX7_takeNumber.2.2.1 32 = .ok (.bipush 10, 2) := by decide +kernel
theorem d_X7_takeNumber_34 : decode mX7_takeNumber.2.2.1 34 = .ok (.imul, 1) := by decide +kernel
theorem d_X7_takeNumber_35 : decode mX7_takeNumber.2.2.1 35 = .ok (.aload_n 0, 1) := by decide +kernel
theorem d_X7_takeNumber_36 : decode mX7_takeNumber.2.2.1 36 = .ok (.getfield 21, 3) := by decide +kernel
theorem d_X7_takeNumber_39 : decode mX7_takeNumber.2.2.1 39 = .ok (.iload_n 2, 1) := by decide +kernel
theorem d_X7_takeNumber_40 : decode mX7_takeNumber.2.2.1 40 = .ok (.baload, 1) := by decide +kernel
theorem d_X7_takeNumber_41 : decode mX7_takeNumber.2.2.1 41 = .ok (.iadd, 1) := by decide +kernel
theorem d_X7_takeNumber_42 : decode mX7_takeNumber.2.2.1 42 = .ok (.bipush 48, 2) := by decide +kernel
theorem d_X7_takeNumber_44 : decode mX7_takeNumber.2.2.1 44 = .ok (.isub, 1) := by decide +kernel
theorem d_X7_takeNumber_45 : decode mX7_takeNumber.2.2.1 45 = .ok (.istore_n 3, 1) := by decide +kernel
theorem d_X7_takeNumber_46 : decode mX7_takeNumber.2.2.1 46 = .ok (.iinc 2 1, 3) := by decide +kernel
theorem d_X7_takeNumber_49 : decode mX7_takeNumber.2.2.1 49 = .ok (.goto (-45), 3) := by decide +kernel
theorem d_X7_takeNumber_52 : decode mX7_takeNumber.2.2.1 52 = .ok (.iload_n 2, 1) := by decide +kernel
theorem d_X7_takeNumber_53 : decode mX7_takeNumber.2.2.1 53 = .ok (.iload_n 1, 1) := by decide +kernel
theorem d_X7_takeNumber_54 : decode mX7_takeNumber.2.2.1 54 = .ok (.isub, 1) := by decide +kernel
theorem d_X7_takeNumber_55 : decode mX7_takeNumber.2.2.1 55 = .ok (.iconst 4, 1) := by decide +kernel
theorem d_X7_takeNumber_56 : decode mX7_takeNumber.2.2.1 56 = .ok (.if_icmp .le 14, 3) := by decide +kernel
theorem d_X7_takeNumber_70 : decode mX7_takeNumber.2.2.1 70 = .ok (.aload_n 0, 1) := by decide +kernel
theorem d_X7_takeNumber_71 : decode mX7_takeNumber.2.2.1 71 = .ok (.iconst 4, 1) := by decide +kernel
theorem d_X7_takeNumber_72 : decode mX7_takeNumber.2.2.1 72 = .ok (.iload_n 1, 1) := by decide +kernel
theorem d_X7_takeNumber_73 : decode mX7_takeNumber.2.2.1 73 = .ok (.iload_n 3, 1) := by decide +kernel
theorem d_X7_takeNumber_74 : decode mX7_takeNumber.2.2.1 74 = .ok (.iload_n 2, 1) := by decide +kernel
theorem d_X7_takeNumber_75 : decode mX7_takeNumber.2.2.1 75 = .ok (.invokevirtual 40, 3) := by decide +kernel
theorem d_X7_takeNumber_78 : decode mX7_takeNumber.2.2.1 78 = .ok (.ireturn, 1) := by decide +kernel
theorem d_X7_takeNumber_59 : decode mX7_takeNumber.2.2.1 59 = .ok (.aload_n 0, 1) := by decide +kernel
theorem d_X7_takeNumber_60 : decode mX7_takeNumber.2.2.1 60 = .ok (.iconst 1, 1) := by decide +kernel
theorem d_X7_takeNumber_61 : decode mX7_takeNumber.2.2.1 61 = .ok (.iload_n 1, 1) := by decide +kernel
theorem d_X7_takeNumber_62 : decode mX7_takeNumber.2.2.1 62 = .ok (.iconst 4, 1) := by decide +kernel
theorem d_X7_takeNumber_63 : decode mX7_takeNumber.2.2.1 63 = .ok (.iadd, 1) := by decide +kernel
theorem d_X7_takeNumber_64 : decode mX7_takeNumber.2.2.1 64 = .ok (.iconst 0, 1) := by decide +kernel
theorem d_X7_takeNumber_65 : decode mX7_takeNumber.2.2.1 65 = .ok (.iconst (-1), 1) := by decide +kernel
theorem d_X7_takeNumber_66 : decode mX7_takeNumber.2.2.1 66 = .ok (.invokevirtual 40, 3) := by decide +kernel
theorem d_X7_takeNumber_69 : decode mX7_takeNumber.2.2.1 69 = .ok (.ireturn, 1) := by decide +kernel
def mJ3_checkIndex_8e157 : MD := (23, yJ3_checkIndex_8e157, cJ3_checkIndex_8e157, 3, some .int)
theorem d_J3_checkIndex_8e157_0 : decode mJ3_checkIndex_8e157.2.2.1 0 = .ok (.iload_n 0, 1) := by decide +kernel
theorem d_J3_checkIndex_8e157_1 : decode mJ3_checkIndex_8e157.2.2.1 1 = .ok (.ifCond .lt 8, 3) := by decide +kernel
theorem d_J3_checkIndex_8e157_4 : decode mJ3_checkIndex_8e157.2.2.1 4 = .ok (.iload_n 0, 1) := by decide +kernel
theorem d_J3_checkIndex_8e157_5 : decode mJ3_checkIndex_8e157.2.2.1 5 = .ok (.iload_n 1, 1) := by decide +kernel
theorem d_J3_checkIndex_8e157_6 : decode mJ3_checkIndex_8e157.2.2.1 6 = .ok (.if_icmp .lt 10, 3) := by decide +kernel
theorem d_J3_checkIndex_8e157_16 : decode mJ3_checkIndex_8e157.2.2.1 16 = .ok (.iload_n 0, 1) := by decide +kernel
theorem d_J3_checkIndex_8e157_17 : decode mJ3_checkIndex_8e157.2.2.1 17 = .ok (.ireturn, 1) := by decide +kernel
theorem f_5_18 : e_fld 5 18 5 2 7 2 false := ⟨RX5, TX5, 2, rfl, rfl, by decide, rfl, rfl, rfl, iX5, tblG_in (inT1 (List.mem_of_getElem? (i := 72) rfl)) rfl, tyX5_ok, nmX5⟩
theorem f_5_22 : e_fld 5 22 5 3 7 2 false := ⟨RX5, TX5, 3, rfl, rfl, by decide, rfl, rfl, rfl, iX5, tblG_in (inT1 (List.mem_of_getElem? (i := 73) rfl)) rfl, tyX5_ok, nmX5⟩
theorem f_5_32 : e_fld 5 32 5 4 7 2 false := ⟨RX5, TX5, 4, rfl, rfl, by decide, rfl, rfl, rfl, iX5, tblG_in (inT1 (List.mem_of_getElem? (i := 74) rfl)) rfl, tyX5_ok, nmX5⟩
theorem f_5_36 : e_fld 5 36 5 5 7 0 false := ⟨RX5, TX5, 5, rfl, rfl, by decide, rfl, rfl, rfl, iX5, tblG_in (inT1 (List.mem_of_getElem? (i := 75) rfl)) rfl, tyX5_ok, nmX5⟩
theorem f_5_39 : e_fld 5 39 5 6 7 0 false := ⟨RX5, TX5, 6, rfl, rfl, by decide, rfl, rfl, rfl, iX5, tblG_in (inT1 (List.mem_of_getElem? (i := 76) rfl)) rfl, tyX5_ok, nmX5⟩
theorem f_5_50 : e_fld 5 50 7 0 6 2 true := ⟨RX7, TX7, 0, rfl, rfl, by decide, rfl, rfl, rfl, iX7, tblG_in (inT1 (List.mem_of_getElem? (i := 39) rfl)) rfl, tyX7_ok, nmX7⟩
theorem f_5_68 : e_fld 5 68 7 2 6 2 true := ⟨RX7, TX7, 2, rfl, rfl, by decide, rfl, rfl, rfl, iX7, tblG_in (inT1 (List.mem_of_getElem? (i := 43) rfl)) rfl, tyX7_ok, nmX7⟩
def mX5_goOn : MD := (5, yX5_goOn, cX5_goOn, 1, some .boolean)
theorem sel_X5_goOn : Cond.instanceMethod mX5_goOn.2.1 ∈ tblG ∧ Cond.selects mX5_goOn.2.1.cls mX5_goOn.2.1 mX5_goOn.2.1 ∈ tblG := ⟨tblG_in (inT4 (List.mem_of_getElem? (i := 32) rfl)) rfl, tblG_in (inP1 (q := (mX5_goOn.2.1, 7)) (List.mem_of_getElem? (i := 11) rfl)) rfl⟩
theorem s_5_74 : e_siteV 5 74 mX5_goOn 5 := ⟨tblG_in (inT4 (List.mem_of_getElem? (i := 30) rfl)) rfl, sel_X5_goOn.1, sel_X5_goOn.2, rfl⟩
theorem d_X5_goOn_0 : decode mX5_goOn.2.2.1 0 = .ok (.aload_n 0, 1) := by decide +kernel
theorem d_X5_goOn_1 : decode mX5_goOn.2.2.1 1 = .ok (.getfield 36, 3) := by decide +kernel
theorem d_X5_goOn_4 : decode mX5_goOn.2.2.1 4 = .ok (.sipush 900, 3) := by decide +kernel
theorem d_X5_goOn_7 : decode mX5_goOn.2.2.1 7 = .ok (.if_icmp .ge 13, 3) := by decide +kernel
theorem d_X5_goOn_20 : decode mX5_goOn.2.2.1 20 = .ok (.iconst 1, 1) := by decide +kernel
theorem d_X5_goOn_21 : decode mX5_goOn.2.2.1 21 = .ok (.ireturn, 1) := by decide +kernel
theorem d_X5_goOn_10 : decode mX5_goOn.2.2.1 10 = .ok (.aload_n 0, 1) := by decide +kernel
theorem d_X5_goOn_11 : decode mX5_goOn.2.2.1 11 = .ok (.dup, 1) := by decide +kernel
theorem d_X5_goOn_12 : decode mX5_goOn.2.2.1 12 = .ok (.getfield 36, 3) := by decide +kernel
theorem d_X5_goOn_15 : decode mX5_goOn.2.2.1 15 = .ok (.iconst 1, 1) := by decide +kernel
theorem d_X5_goOn_16 : decode mX5_goOn.2.2.1 16 = .ok (.iadd, 1) := by decide +kernel
theorem d_X5_goOn_17 : decode mX5_goOn.2.2.1 17 = .ok (.putfield 36, 3) := by decide +kernel
theorem ok_X5_goOn : e_m mX5_goOn 0 := ⟨tblG_in (inT4 (List.mem_of_getElem? (i := 33) rfl)) rfl, plainFor_of_name (by decide), rfl, ini_5, by decide +kernel, by decide⟩
def mX3_find : MD := (3, yX3_find, cX3_find, 3, some .int)
theorem d_X3_find_0 : decode mX3_find.2.2.1 0 = .ok (.iconst 0, 1) := by decide +kernel
theorem d_X3_find_1 : decode mX3_find.2.2.1 1 = .ok (.istore_n 2, 1) := by decide +kernel
theorem d_X3_find_2 : decode mX3_find.2.2.1 2 = .ok (.iload_n 2, 1) := by decide +kernel
theorem d_X3_find_3 : decode mX3_find.2.2.1 3 = .ok (.bipush 15, 2) := by decide +kernel
theorem d_X3_find_5 : decode mX3_find.2.2.1 5 = .ok (.if_icmp .ge 21, 3) := by decide +kernel
theorem d_X3_find_8 : decode mX3_find.2.2.1 8 = .ok (.aload_n 0, 1) := by decide +kernel
theorem d_X3_find_9 : decode mX3_find.2.2.1 9 = .ok (.getfield 30, 3) := by decide +kernel
theorem d_X3_find_12 : decode mX3_find.2.2.1 12 = .ok (.iload_n 2, 1) := by decide +kernel
theorem d_X3_find_13 : decode mX3_find.2.2.1 13 = .ok (.iaload, 1) := by decide +kernel
theorem d_X3_find_14 : decode mX3_find.2.2.1 14 = .ok (.iload_n 1, 1) := by decide +kernel
theorem d_X3_find_15 : decode mX3_find.2.2.1 15 = .ok (.if_icmp .ne 5, 3) := by decide +kernel
theorem d_X3_find_20 : decode mX3_find.2.2.1 20 = .ok (.iinc 2 1, 3) := by decide +kernel
theorem d_X3_find_23 : decode mX3_find.2.2.1 23 = .ok (.goto (-21), 3) := by decide +kernel
theorem d_X3_find_18 : decode mX3_find.2.2.1 18 = .ok (.iload_n 2, 1) := by decide +kernel
theorem d_X3_find_19 : decode mX3_find.2.2.1 19 = .ok (.ireturn, 1) := by decide +kernel
theorem d_X3_find_26 : decode mX3_find.2.2.1 26 = .ok (.iconst (-1), 1) := by decide +kernel
theorem d_X3_find_27 : decode mX3_find.2.2.1 27 = .ok (.ireturn, 1) := by decide +kernel
def mX5_refuse : MD := (5, yX5_refuse, cX5_refuse, 2, some .boolean)
theorem sel_X5_refuse : Cond.instanceMethod mX5_refuse.2.1 ∈ tblG ∧ Cond.selects mX5_refuse.2.1.cls mX5_refuse.2.1 mX5_refuse.2.1 ∈ tblG := ⟨tblG_in (inT4 (List.mem_of_getElem? (i := 40) rfl)) rfl, tblG_in (inP1 (q := (mX5_refuse.2.1, 7)) (List.mem_of_getElem? (i := 13) rfl)) rfl⟩
theorem s_5_56 : e_siteV 5 56 mX5_refuse 5 := ⟨tblG_in (inT4 (List.mem_of_getElem? (i := 38) rfl)) rfl, sel_X5_refuse.1, sel_X5_refuse.2, rfl⟩
theorem d_X5_refuse_0 : decode mX5_refuse.2.2.1 0 = .ok (.aload_n 0, 1) := by decide +kernel
theorem d_X5_refuse_1 : decode mX5_refuse.2.2.1 1 = .ok (.iload_n 1, 1) := by decide +kernel
theorem d_X5_refuse_2 : decode mX5_refuse.2.2.1 2 = .ok (.putfield 9, 3) := by decide +kernel
theorem d_X5_refuse_5 : decode mX5_refuse.2.2.1 5 = .ok (.aload_n 0, 1) := by decide +kernel
theorem d_X5_refuse_6 : decode mX5_refuse.2.2.1 6 = .ok (.aload_n 0, 1) := by decide +kernel
theorem d_X5_refuse_7 : decode mX5_refuse.2.2.1 7 = .ok (.getfield 18, 3) := by decide +kernel
theorem d_X5_refuse_10 : decode mX5_refuse.2.2.1 10 = .ok (.getfield 65, 3) := by decide +kernel
theorem f_5_65 : e_fld 5 65 7 1 6 2 true := ⟨RX7, TX7, 1, rfl, rfl, by decide, rfl, rfl, rfl, iX7, tblG_in (inT1 (List.mem_of_getElem? (i := 41) rfl)) rfl, tyX7_ok, nmX7⟩
