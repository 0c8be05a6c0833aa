def mX11_feed : MD := (11, yX11_feed, cX11_feed, 6, some .int)
theorem d_X11_feed_0 : decode mX11_feed.2.2.1 0 = .ok (.aload_n 0, 1) := by decide +kernel
theorem d_X11_feed_1 : decode mX11_feed.2.2.1 1 = .ok (.getfield 84, 3) := by decide +kernel
theorem f_11_84 : e_fld 11 84 11 1 14 0 false := ⟨RX11, TX11, 1, rfl, rfl, by decide, rfl, rfl, rfl, iX11, tblG_in (inT3 (List.mem_of_getElem? (i := 49) rfl)) rfl, tyX11_ok, nmX11⟩
theorem d_X11_feed_4 : decode mX11_feed.2.2.1 4 = .ok (.bipush 20, 2) := by decide +kernel
theorem d_X11_feed_6 : decode mX11_feed.2.2.1 6 = .ok (.iadd, 1) := by decide +kernel
theorem d_X11_feed_7 : decode mX11_feed.2.2.1 7 = .ok (.sipush 900, 3) := by decide +kernel
theorem d_X11_feed_10 : decode mX11_feed.2.2.1 10 = .ok (.if_icmp .le 5, 3) := by decide +kernel
theorem d_X11_feed_15 : decode mX11_feed.2.2.1 15 = .ok (.aload_n 0, 1) := by decide +kernel
theorem d_X11_feed_16 : decode mX11_feed.2.2.1 16 = .ok (.iload_n 1, 1) := by decide +kernel
theorem d_X11_feed_17 : decode mX11_feed.2.2.1 17 = .ok (.invokevirtual 88, 3) := by decide +kernel
def mX11_lay : MD := (11, yX11_lay, cX11_lay, 3, none)
theorem sel_X11_lay : Cond.instanceMethod mX11_lay.2.1 ∈ tblG ∧ Cond.selects mX11_lay.2.1.cls mX11_lay.2.1 mX11_lay.2.1 ∈ tblG := ⟨tblG_in (inT3 (List.mem_of_getElem? (i := 97) rfl)) rfl, tblG_in (inP1 (q := (mX11_lay.2.1, 14)) (List.mem_of_getElem? (i := 0) rfl)) rfl⟩
theorem s_11_88 : e_siteV 11 88 mX11_lay 11 := ⟨tblG_in (inT3 (List.mem_of_getElem? (i := 95) rfl)) rfl, sel_X11_lay.1, sel_X11_lay.2, rfl⟩
theorem d_X11_lay_0 : decode mX11_lay.2.2.1 0 = .ok (.bipush 24, 2) := by decide +kernel
theorem d_X11_lay_2 : decode mX11_lay.2.2.1 2 = .ok (.istore_n 2, 1) := by decide +kernel
theorem d_X11_lay_3 : decode mX11_lay.2.2.1 3 = .ok (.iload_n 2, 1) := by decide +kernel
theorem d_X11_lay_4 : decode mX11_lay.2.2.1 4 = .ok (.ifCond .lt 42, 3) := by decide +kernel
theorem d_X11_lay_7 : decode mX11_lay.2.2.1 7 = .ok (.aload_n 0, 1) := by decide +kernel
theorem d_X11_lay_8 : decode mX11_lay.2.2.1 8 = .ok (.getfield 84, 3) := by decide +kernel
theorem d_X11_lay_11 : decode mX11_lay.2.2.1 11 = .ok (.sipush 900, 3) := by decide +kernel
theorem d_X11_lay_14 : decode mX11_lay.2.2.1 14 = .ok (.if_icmp .ge 32, 3) := by decide +kernel
theorem d_X11_lay_46 : decode mX11_lay.2.2.1 46 = .ok (.return_, 1) := by decide +kernel
theorem d_X11_lay_17 : decode mX11_lay.2.2.1 17 = .ok (.aload_n 0, 1) := by decide +kernel
theorem d_X11_lay_18 : decode mX11_lay.2.2.1 18 = .ok (.getfield 9, 3) := by decide +kernel
theorem d_X11_lay_21 : decode mX11_lay.2.2.1 21 = .ok (.aload_n 0, 1) := by decide +kernel
theorem d_X11_lay_22 : decode mX11_lay.2.2.1 22 = .ok (.getfield 84, 3) := by decide +kernel
theorem d_X11_lay_25 : decode mX11_lay.2.2.1 25 = .ok (.iload_n 1, 1) := by decide +kernel
theorem d_X11_lay_26 : decode mX11_lay.2.2.1 26 = .ok (.iload_n 2, 1) := by decide +kernel
theorem d_X11_lay_27 : decode mX11_lay.2.2.1 27 = .ok (.ishr, 1) := by decide +kernel
theorem d_X11_lay_28 : decode mX11_lay.2.2.1 28 = .ok (.i2b, 1) := by decide +kernel
theorem d_X11_lay_29 : decode mX11_lay.2.2.1 29 = .ok (.bastore, 1) := by decide +kernel
theorem d_X11_lay_30 : decode mX11_lay.2.2.1 30 = .ok (.aload_n 0, 1) := by decide +kernel
theorem d_X11_lay_31 : decode mX11_lay.2.2.1 31 = .ok (.dup, 1) := by decide +kernel
theorem d_X11_lay_32 : decode mX11_lay.2.2.1 32 = .ok (.getfield 84, 3) := by decide +kernel
theorem d_X11_lay_35 : decode mX11_lay.2.2.1 35 = .ok (.iconst 1, 1) := by decide +kernel
theorem d_X11_lay_36 : decode mX11_lay.2.2.1 36 = .ok (.iadd, 1) := by decide +kernel
theorem d_X11_lay_37 : decode mX11_lay.2.2.1 37 = .ok (.putfield 84, 3) := by decide +kernel
theorem d_X11_lay_40 : decode mX11_lay.2.2.1 40 = .ok (.iinc 2 (-8), 3) := by decide +kernel
theorem d_X11_lay_43 : decode mX11_lay.2.2.1 43 = .ok (.goto (-40), 3) := by decide +kernel
theorem ok_X11_lay : e_m mX11_lay 1 := ⟨tblG_in (inT3 (List.mem_of_getElem? (i := 98) rfl)) rfl, plainFor_of_name (by decide), rfl, ini_11, by decide +kernel, by decide⟩
theorem d_X11_feed_20 : decode mX11_feed.2.2.1 20 = .ok (.aload_n 0, 1) := by decide +kernel
theorem d_X11_feed_21 : decode mX11_feed.2.2.1 21 = .ok (.iload_n 2, 1) := by decide +kernel
theorem d_X11_feed_22 : decode mX11_feed.2.2.1 22 = .ok (.invokevirtual 88, 3) := by decide +kernel
theorem d_X11_feed_25 : decode mX11_feed.2.2.1 25 = .ok (.aload_n 0, 1) := by decide +kernel
theorem d_X11_feed_26 : decode mX11_feed.2.2.1 26 = .ok (.iload_n 3, 1) := by decide +kernel
theorem d_X11_feed_27 : decode mX11_feed.2.2.1 27 = .ok (.invokevirtual 88, 3) := by decide +kernel
theorem d_X11_feed_30 : decode mX11_feed.2.2.1 30 = .ok (.aload_n 0, 1) := by decide +kernel
theorem d_X11_feed_31 : decode mX11_feed.2.2.1 31 = .ok (.iload 4, 2) := by decide +kernel
theorem d_X11_feed_33 : decode mX11_feed.2.2.1 33 = .ok (.invokevirtual 88, 3) := by decide +kernel
theorem d_X11_feed_36 : decode mX11_feed.2.2.1 36 = .ok (.aload_n 0, 1) := by decide +kernel
theorem d_X11_feed_37 : decode mX11_feed.2.2.1 37 = .ok (.iload 5, 2) := by decide +kernel
theorem d_X11_feed_39 : decode mX11_feed.2.2.1 39 = .ok (.invokevirtual 88, 3) := by decide +kernel
theorem d_X11_feed_42 : decode mX11_feed.2.2.1 42 = .ok (.aload_n 0, 1) := by decide +kernel
theorem d_X11_feed_43 : decode mX11_feed.2.2.1 43 = .ok (.getfield 84, 3) := by decide +kernel
theorem d_X11_feed_46 : decode mX11_feed.2.2.1 46 = .ok (.ireturn, 1) := by decide +kernel
theorem d_X11_feed_13 : decode mX11_feed.2.2.1 13 = .ok (.iconst (-1), 1) := by decide +kernel
theorem d_X11_feed_14 : decode mX11_feed.2.2.1 14 = .ok (.ireturn, 1) := by decide +kernel
def mX11_end : MD := (11, yX11_end, cX11_end, 2, some .boolean)
theorem d_X11_end_0 : decode mX11_end.2.2.1 0 = .ok (.iload_n 1, 1) := by decide +kernel
theorem d_X11_end_1 : decode mX11_end.2.2.1 1 = .ok (.ifCond .lt 11, 3) := by decide +kernel
theorem d_X11_end_12 : decode mX11_end.2.2.1 12 = .ok (.iconst 0, 1) := by decide +kernel
theorem d_X11_end_13 : decode mX11_end.2.2.1 13 = .ok (.ireturn, 1) := by decide +kernel
theorem d_X11_end_4 : decode mX11_end.2.2.1 4 = .ok (.iload_n 1, 1) := by decide +kernel
theorem d_X11_end_5 : decode mX11_end.2.2.1 5 = .ok (.aload_n 0, 1) := by decide +kernel
theorem d_X11_end_6 : decode mX11_end.2.2.1 6 = .ok (.getfield 84, 3) := by decide +kernel
theorem d_X11_end_9 : decode mX11_end.2.2.1 9 = .ok (.if_icmp .le 5, 3) := by decide +kernel
theorem d_X11_end_14 : decode mX11_end.2.2.1 14 = .ok (.aload_n 0, 1) := by decide +kernel
theorem d_X11_end_15 : decode mX11_end.2.2.1 15 = .ok (.iload_n 1, 1) := by decide +kernel
theorem d_X11_end_16 : decode mX11_end.2.2.1 16 = .ok (.putfield 84, 3) := by decide +kernel
theorem d_X11_end_19 : decode mX11_end.2.2.1 19 = .ok (.iconst 1, 1) := by decide +kernel
theorem d_X11_end_20 : decode mX11_end.2.2.1 20 = .ok (.ireturn, 1) := by decide +kernel
def mX11_fault : MD := (11, yX11_fault, cX11_fault, 2, some .int)
theorem d_X11_fault_0 : decode mX11_fault.2.2.1 0 = .ok (.iload_n 1, 1) := by decide +kernel
theorem d_X11_fault_1 : decode mX11_fault.2.2.1 1 = .ok (.ifCond .ne 11, 3) := by decide +kernel
theorem d_X11_fault_12 : decode mX11_fault.2.2.1 12 = .ok (.iload_n 1, 1) := by decide +kernel
theorem d_X11_fault_13 : decode mX11_fault.2.2.1 13 = .ok (.iconst 1, 1) := by decide +kernel
theorem d_X11_fault_14 : decode mX11_fault.2.2.1 14 = .ok (.if_icmp .ne 13, 3) := by decide +kernel
theorem d_X11_fault_27 : decode mX11_fault.2.2.1 27 = .ok (.iconst (-1), 1) := by decide +kernel
theorem d_X11_fault_28 : decode mX11_fault.2.2.1 28 = .ok (.ireturn, 1) := by decide +kernel
theorem d_X11_fault_17 : decode mX11_fault.2.2.1 17 = .ok (.aload_n 0, 1) := by decide +kernel
theorem d_X11_fault_18 : decode mX11_fault.2.2.1 18 = .ok (.getfield 23, 3) := by decide +kernel
theorem d_X11_fault_21 : decode mX11_fault.2.2.1 21 = .ok (.getfield 127, 3) := by decide +kernel
theorem f_11_127 : e_fld 11 127 5 1 7 0 false := ⟨RX5, TX5, 1, rfl, rfl, by decide, rfl, rfl, rfl, iX5, tblG_in (inT1 (List.mem_of_getElem? (i := 71) rfl)) rfl, tyX5_ok, nmX5⟩
theorem d_X11_fault_24 : decode mX11_fault.2.2.1 24 = .ok (.goto 4, 3) := by decide +kernel
theorem d_X11_fault_4 : decode mX11_fault.2.2.1 4 = .ok (.aload_n 0, 1) := by decide +kernel
theorem d_X11_fault_5 : decode mX11_fault.2.2.1 5 = .ok (.getfield 23, 3) := by decide +kernel
theorem d_X11_fault_8 : decode mX11_fault.2.2.1 8 = .ok (.getfield 124, 3) := by decide +kernel
theorem f_11_124 : e_fld 11 124 5 0 7 0 false := ⟨RX5, TX5, 0, rfl, rfl, by decide, rfl, rfl, rfl, iX5, tblG_in (inT1 (List.mem_of_getElem? (i := 69) rfl)) rfl, tyX5_ok, nmX5⟩
theorem d_X11_fault_11 : decode mX11_fault.2.2.1 11 = .ok (.ireturn, 1) := by decide +kernel
def mX11_has : MD := (11, yX11_has, cX11_has, 2, some .int)
theorem d_X11_has_0 : decode mX11_has.2.2.1 0 = .ok (.iload_n 1, 1) := by decide +kernel
theorem d_X11_has_1 : decode mX11_has.2.2.1 1 = .ok (.tableswitch 76 0 5 #[39, 39, 39, 49, 60, 68], 39) := by decide +kernel
theorem d_X11_has_77 : decode mX11_has.2.2.1 77 = .ok (.iconst (-1), 1) := by decide +kernel
theorem d_X11_has_78 : decode mX11_has.2.2.1 78 = .ok (.ireturn, 1) := by decide +kernel
theorem d_X11_has_69 : decode mX11_has.2.2.1 69 = .ok (.aload_n 0, 1) := by decide +kernel
theorem d_X11_has_70 : decode mX11_has.2.2.1 70 = .ok (.getfield 77, 3) := by decide +kernel
theorem d_X11_has_73 : decode mX11_has.2.2.1 73 = .ok (.getfield 136, 3) := by decide +kernel
theorem f_11_136 : e_fld 11 136 0 0 8 0 false := ⟨RX0, TX0, 0, rfl, rfl, by decide, rfl, rfl, rfl, iX0, tblG_in (inT3 (List.mem_of_getElem? (i := 10) rfl)) rfl, tyX0_ok, nmX0⟩
theorem d_X11_has_76 : decode mX11_has.2.2.1 76 = .ok (.ireturn, 1) := by decide +kernel
theorem d_X11_has_61 : decode mX11_has.2.2.1 61 = .ok (.aload_n 0, 1) := by decide +kernel
theorem d_X11_has_62 : decode mX11_has.2.2.1 62 = .ok (.getfield 70, 3) := by decide +kernel
theorem d_X11_has_65 : decode mX11_has.2.2.1 65 = .ok (.getfield 133, 3) := by decide +kernel
theorem f_11_133 : e_fld 11 133 2 0 7 0 false := ⟨RX2, TX2, 0, rfl, rfl, by decide, rfl, rfl, rfl, iX2, tblG_in (inT2 (List.mem_of_getElem? (i := 219) rfl)) rfl, tyX2_ok, nmX2⟩
theorem d_X11_has_68 : decode mX11_has.2.2.1 68 = .ok (.ireturn, 1) := by decide +kernel
theorem d_X11_has_50 : decode mX11_has.2.2.1 50 = .ok (.aload_n 0, 1) := by decide +kernel
theorem d_X11_has_51 : decode mX11_has.2.2.1 51 = .ok (.getfield 30, 3) := by decide +kernel
theorem d_X11_has_54 : decode mX11_has.2.2.1 54 = .ok (.getfield 115, 3) := by decide +kernel
theorem f_11_115 : e_fld 11 115 3 11 12 2 true := ⟨RX3, TX3, 11, rfl, rfl, by decide, rfl, rfl, rfl, iX3, tblG_in (inT1 (List.mem_of_getElem? (i := 206) rfl)) rfl, tyX3_ok, nmX3⟩
theorem d_X11_has_57 : decode mX11_has.2.2.1 57 = .ok (.getfield 119, 3) := by decide +kernel
theorem f_11_119 : e_fld 11 119 4 0 13 0 false := ⟨RX4, TX4, 0, rfl, rfl, by decide, rfl, rfl, rfl, iX4, tblG_in (inT1 (List.mem_of_getElem? (i := 106) rfl)) rfl, tyX4_ok, nmX4⟩
theorem d_X11_has_60 : decode mX11_has.2.2.1 60 = .ok (.ireturn, 1) := by decide +kernel
theorem d_X11_has_40 : decode mX11_has.2.2.1 40 = .ok (.aload_n 0, 1) := by decide +kernel
theorem d_X11_has_41 : decode mX11_has.2.2.1 41 = .ok (.getfield 30, 3) := by decide +kernel
theorem d_X11_has_44 : decode mX11_has.2.2.1 44 = .ok (.getfield 130, 3) := by decide +kernel
theorem f_11_130 : e_fld 11 130 3 4 12 2 true := ⟨RX3, TX3, 4, rfl, rfl, by decide, rfl, rfl, rfl, iX3, tblG_in (inT1 (List.mem_of_getElem? (i := 175) rfl)) rfl, tyX3_ok, nmX3⟩
theorem d_X11_has_47 : decode mX11_has.2.2.1 47 = .ok (.iload_n 1, 1) := by decide +kernel
theorem d_X11_has_48 : decode mX11_has.2.2.1 48 = .ok (.iaload, 1) := by decide +kernel
theorem d_X11_has_49 : decode mX11_has.2.2.1 49 = .ok (.ireturn, 1) := by decide +kernel
def mX11_letter : MD := (11, yX11_letter, cX11_letter, 4, some .int)
theorem d_X11_letter_0 : decode mX11_letter.2.2.1 0 = .ok (.iload_n 1, 1) := by decide +kernel
theorem d_X11_letter_1 : decode mX11_letter.2.2.1 1 = .ok (.ifCond .lt 25, 3) := by decide +kernel
theorem d_X11_letter_26 : decode mX11_letter.2.2.1 26 = .ok (.iconst (-1), 1) := by decide +kernel
theorem d_X11_letter_27 : decode mX11_letter.2.2.1 27 = .ok (.ireturn, 1) := by decide +kernel
theorem d_X11_letter_4 : decode mX11_letter.2.2.1 4 = .ok (.iload_n 1, 1) := by decide +kernel
theorem d_X11_letter_5 : decode mX11_letter.2.2.1 5 = .ok (.iconst 3, 1) := by decide +kernel
theorem d_X11_letter_6 : decode mX11_letter.2.2.1 6 = .ok (.if_icmp .ge 20, 3) := by decide +kernel
theorem d_X11_letter_9 : decode mX11_letter.2.2.1 9 = .ok (.iload_n 2, 1) := by decide +kernel
theorem d_X11_letter_10 : decode mX11_letter.2.2.1 10 = .ok (.ifCond .lt 16, 3) := by decide +kernel
theorem d_X11_letter_13 : decode mX11_letter.2.2.1 13 = .ok (.iload_n 2, 1) := by decide +kernel
theorem d_X11_letter_14 : decode mX11_letter.2.2.1 14 = .ok (.aload_n 0, 1) := by decide +kernel
theorem d_X11_letter_15 : decode mX11_letter.2.2.1 15 = .ok (.getfield 30, 3) := by decide +kernel
theorem d_X11_letter_18 : decode mX11_letter.2.2.1 18 = .ok (.getfield 130, 3) := by decide +kernel
theorem d_X11_letter_21 : decode mX11_letter.2.2.1 21 = .ok (.iload_n 1, 1) := by decide +kernel
theorem d_X11_letter_22 : decode mX11_letter.2.2.1 22 = .ok (.iaload, 1) := by decide +kernel
theorem d_X11_letter_23 : decode mX11_letter.2.2.1 23 = .ok (.if_icmp .lt 5, 3) := by decide +kernel
theorem d_X11_letter_28 : decode mX11_letter.2.2.1 28 = .ok (.aload_n 0, 1) := by decide +kernel
theorem d_X11_letter_29 : decode mX11_letter.2.2.1 29 = .ok (.getfield 30, 3) := by decide +kernel
theorem d_X11_letter_32 : decode mX11_letter.2.2.1 32 = .ok (.iload_n 1, 1) := by decide +kernel
theorem d_X11_letter_33 : decode mX11_letter.2.2.1 33 = .ok (.iload_n 2, 1) := by decide +kernel
theorem d_X11_letter_34 : decode mX11_letter.2.2.1 34 = .ok (.iload_n 3, 1) := by decide +kernel
theorem d_X11_letter_35 : decode mX11_letter.2.2.1 35 = .ok (.invokevirtual 137, 3) := by decide +kernel
def mX3_letterOf : MD := (3, yX3_letterOf, cX3_letterOf, 7, some .int)
theorem sel_X3_letterOf : Cond.instanceMethod mX3_letterOf.2.1 ∈ tblG ∧ Cond.selects mX3_letterOf.2.1.cls mX3_letterOf.2.1 mX3_letterOf.2.1 ∈ tblG := ⟨tblG_in (inT4 (List.mem_of_getElem? (i := 215) rfl)) rfl, tblG_in (inT4 (List.mem_of_getElem? (i := 216) rfl)) rfl⟩
theorem s_11_137 : e_siteV 11 137 mX3_letterOf 3 := ⟨tblG_in (inT4 (List.mem_of_getElem? (i := 214) rfl)) rfl, sel_X3_letterOf.1, sel_X3_letterOf.2, rfl⟩
theorem d_X3_letterOf_0 : decode mX3_letterOf.2.2.1 0 = .ok (.aload_n 0, 1) := by decide +kernel
theorem d_X3_letterOf_1 : decode mX3_letterOf.2.2.1 1 = .ok (.getfield 30, 3) := by decide +kernel
theorem d_X3_letterOf_4 : decode mX3_letterOf.2.2.1 4 = .ok (.getstatic 65, 3) := by decide +kernel
theorem d_X3_letterOf_7 : decode mX3_letterOf.2.2.1 7 = .ok (.iload_n 1, 1) := by decide +kernel
theorem d_X3_letterOf_8 : decode mX3_letterOf.2.2.1 8 = .ok (.iaload, 1) := by decide +kernel
theorem d_X3_letterOf_9 : decode mX3_letterOf.2.2.1 9 = .ok (.iload_n 2, 1) := by decide +kernel
theorem d_X3_letterOf_10 : decode mX3_letterOf.2.2.1 10 = .ok (.iadd, 1) := by decide +kernel
theorem d_X3_letterOf_11 : decode mX3_letterOf.2.2.1 11 = .ok (.iaload, 1) := by decide +kernel
theorem d_X3_letterOf_12 : decode mX3_letterOf.2.2.1 12 = .ok (.istore 4, 2) := by decide +kernel
theorem d_X3_letterOf_14 : decode mX3_letterOf.2.2.1 14 = .ok (.iconst 0, 1) := by decide +kernel
theorem d_X3_letterOf_15 : decode mX3_letterOf.2.2.1 15 = .ok (.istore 5, 2) := by decide +kernel
theorem d_X3_letterOf_17 : decode mX3_letterOf.2.2.1 17 = .ok (.iload 4, 2) := by decide +kernel
theorem d_X3_letterOf_19 : decode mX3_letterOf.2.2.1 19 = .ok (.istore 6, 2) := by decide +kernel
theorem d_X3_letterOf_21 : decode mX3_letterOf.2.2.1 21 = .ok (.iload 6, 2) := by decide +kernel
theorem d_X3_letterOf_23 : decode mX3_letterOf.2.2.1 23 = .ok (.ifCond .le 23, 3) := by decide +kernel
theorem d_X3_letterOf_26 : decode mX3_letterOf.2.2.1 26 = .ok (.iload 5, 2) := by decide +kernel
theorem d_X3_letterOf_28 : decode mX3_letterOf.2.2.1 28 = .ok (.bipush 6, 2) := by decide +kernel
theorem d_X3_letterOf_30 : decode mX3_letterOf.2.2.1 30 = .ok (.if_icmp .ge 16, 3) := by decide +kernel
theorem d_X3_letterOf_33 : decode mX3_letterOf.2.2.1 33 = .ok (.iinc 5 1, 3) := by decide +kernel
theorem d_X3_letterOf_36 : decode mX3_letterOf.2.2.1 36 = .ok (.iload 6, 2) := by decide +kernel
theorem d_X3_letterOf_38 : decode mX3_letterOf.2.2.1 38 = .ok (.bipush 27, 2) := by decide +kernel
theorem d_X3_letterOf_40 : decode mX3_letterOf.2.2.1 40 = .ok (.idiv, 1) := by decide +kernel
theorem d_X3_letterOf_41 : decode mX3_letterOf.2.2.1 41 = .ok (.istore 6, 2) := by decide +kernel
theorem d_X3_letterOf_43 : decode mX3_letterOf.2.2.1 43 = .ok (.goto (-22), 3) := by decide +kernel
theorem d_X3_letterOf_46 : decode mX3_letterOf.2.2.1 46 = .ok (.iload_n 3, 1) := by decide +kernel
theorem d_X3_letterOf_47 : decode mX3_letterOf.2.2.1 47 = .ok (.ifCond .lt 9, 3) := by decide +kernel
theorem d_X3_letterOf_56 : decode mX3_letterOf.2.2.1 56 = .ok (.iconst (-1), 1) := by decide +kernel
theorem d_X3_letterOf_57 : decode mX3_letterOf.2.2.1 57 = .ok (.ireturn, 1) := by decide +kernel
theorem d_X3_letterOf_50 : decode mX3_letterOf.2.2.1 50 = .ok (.iload_n 3, 1) := by decide +kernel
theorem d_X3_letterOf_51 : decode mX3_letterOf.2.2.1 51 = .ok (.iload 5, 2) := by decide +kernel
theorem d_X3_letterOf_53 : decode mX3_letterOf.2.2.1 53 = .ok (.if_icmp .lt 5, 3) := by decide +kernel
theorem d_X3_letterOf_58 : decode mX3_letterOf.2.2.1 58 = .ok (.iload 5, 2) := by decide +kernel
theorem d_X3_letterOf_60 : decode mX3_letterOf.2.2.1 60 = .ok (.iconst 1, 1) := by decide +kernel
theorem d_X3_letterOf_61 : decode mX3_letterOf.2.2.1 61 = .ok (.isub, 1) := by decide +kernel
theorem d_X3_letterOf_62 : decode mX3_letterOf.2.2.1 62 = .ok (.istore 6, 2) := by decide +kernel
theorem d_X3_letterOf_64 : decode mX3_letterOf.2.2.1 64 = .ok (.iload 6, 2) := by decide +kernel
theorem d_X3_letterOf_66 : decode mX3_letterOf.2.2.1 66 = .ok (.iload_n 3, 1) := by decide +kernel
theorem d_X3_letterOf_67 : decode mX3_letterOf.2.2.1 67 = .ok (.if_icmp .le 16, 3) := by decide +kernel
theorem d_X3_letterOf_83 : decode mX3_letterOf.2.2.1 83 = .ok (.iload 4, 2) := by decide +kernel
theorem d_X3_letterOf_85 : decode mX3_letterOf.2.2.1 85 = .ok (.bipush 27, 2) := by decide +kernel
theorem d_X3_letterOf_87 : decode mX3_letterOf.2.2.1 87 = .ok (.irem, 1) := by decide +kernel
theorem d_X3_letterOf_88 : decode mX3_letterOf.2.2.1 88 = .ok (.bipush 96, 2) := by decide +kernel
theorem d_X3_letterOf_90 : decode mX3_letterOf.2.2.1 90 = .ok (.iadd, 1) := by decide +kernel
theorem d_X3_letterOf_91 : decode mX3_letterOf.2.2.1 91 = .ok (.ireturn, 1) := by decide +kernel
theorem d_X3_letterOf_70 : decode mX3_letterOf.2.2.1 70 = .ok (.iload 4, 2) := by decide +kernel
theorem d_X3_letterOf_72 : decode mX3_letterOf.2.2.1 72 = .ok (.bipush 27, 2) := by decide +kernel
theorem d_X3_letterOf_74 : decode mX3_letterOf.2.2.1 74 = .ok (.idiv, 1) := by decide +kernel
theorem d_X3_letterOf_75 : decode mX3_letterOf.2.2.1 75 = .ok (.istore 4, 2) := by decide +kernel
theorem d_X3_letterOf_77 : decode mX3_letterOf.2.2.1 77 = .ok (.iinc 6 (-1), 3) := by decide +kernel
theorem d_X3_letterOf_80 : decode mX3_letterOf.2.2.1 80 = .ok (.goto (-16), 3) := by decide +kernel
theorem ok_X3_letterOf : e_m mX3_letterOf 3 := ⟨tblG_in (inT4 (List.mem_of_getElem? (i := 217) rfl)) rfl, plainFor_of_name (by decide), rfl, ini_3, by decide +kernel, by decide⟩
theorem d_X11_letter_38 : decode mX11_letter.2.2.1 38 = .ok (.ireturn, 1) := by decide +kernel
def mX11_put : MD := (11, yX11_put, cX11_put, 3, some .boolean)
theorem d_X11_put_0 : decode mX11_put.2.2.1 0 = .ok (.iload_n 1, 1) := by decide +kernel
theorem d_X11_put_1 : decode mX11_put.2.2.1 1 = .ok (.ifCond .lt 16, 3) := by decide +kernel
theorem d_X11_put_17 : decode mX11_put.2.2.1 17 = .ok (.iconst 0, 1) := by decide +kernel
theorem d_X11_put_18 : decode mX11_put.2.2.1 18 = .ok (.ireturn, 1) := by decide +kernel
theorem d_X11_put_4 : decode mX11_put.2.2.1 4 = .ok (.iload_n 1, 1) := by decide +kernel
theorem d_X11_put_5 : decode mX11_put.2.2.1 5 = .ok (.aload_n 0, 1) := by decide +kernel
theorem d_X11_put_6 : decode mX11_put.2.2.1 6 = .ok (.getfield 30, 3) := by decide +kernel
theorem d_X11_put_9 : decode mX11_put.2.2.1 9 = .ok (.getfield 130, 3) := by decide +kernel
theorem d_X11_put_12 : decode mX11_put.2.2.1 12 = .ok (.iconst 1, 1) := by decide +kernel
theorem d_X11_put_13 : decode mX11_put.2.2.1 13 = .ok (.iaload, 1) := by decide +kernel
theorem d_X11_put_14 : decode mX11_put.2.2.1 14 = .ok (.if_icmp .lt 5, 3) := by decide +kernel
theorem d_X11_put_19 : decode mX11_put.2.2.1 19 = .ok (.iload_n 2, 1) := by decide +kernel
theorem d_X11_put_20 : decode mX11_put.2.2.1 20 = .ok (.aload_n 0, 1) := by decide +kernel
theorem d_X11_put_21 : decode mX11_put.2.2.1 21 = .ok (.getfield 30, 3) := by decide +kernel
theorem d_X11_put_24 : decode mX11_put.2.2.1 24 = .ok (.getfield 100, 3) := by decide +kernel
theorem f_11_100 : e_fld 11 100 3 8 12 2 true := ⟨RX3, TX3, 8, rfl, rfl, by decide, rfl, rfl, rfl, iX3, tblG_in (inT1 (List.mem_of_getElem? (i := 196) rfl)) rfl, tyX3_ok, nmX3⟩
theorem d_X11_put_27 : decode mX11_put.2.2.1 27 = .ok (.iload_n 1, 1) := by decide +kernel
theorem d_X11_put_28 : decode mX11_put.2.2.1 28 = .ok (.iaload, 1) := by decide +kernel
theorem d_X11_put_29 : decode mX11_put.2.2.1 29 = .ok (.if_icmp .lt 16, 3) := by decide +kernel
theorem d_X11_put_45 : decode mX11_put.2.2.1 45 = .ok (.iconst 0, 1) := by decide +kernel
theorem d_X11_put_46 : decode mX11_put.2.2.1 46 = .ok (.ireturn, 1) := by decide +kernel
theorem d_X11_put_32 : decode mX11_put.2.2.1 32 = .ok (.iload_n 2, 1) := by decide +kernel
theorem d_X11_put_33 : decode mX11_put.2.2.1 33 = .ok (.aload_n 0, 1) := by decide +kernel
theorem d_X11_put_34 : decode mX11_put.2.2.1 34 = .ok (.getfield 30, 3) := by decide +kernel
theorem d_X11_put_37 : decode mX11_put.2.2.1 37 = .ok (.getfield 141, 3) := by decide +kernel
theorem f_11_141 : e_fld 11 141 3 9 12 2 true := ⟨RX3, TX3, 9, rfl, rfl, by decide, rfl, rfl, rfl, iX3, tblG_in (inT1 (List.mem_of_getElem? (i := 200) rfl)) rfl, tyX3_ok, nmX3⟩
theorem d_X11_put_40 : decode mX11_put.2.2.1 40 = .ok (.iload_n 1, 1) := by decide +kernel
theorem d_X11_put_41 : decode mX11_put.2.2.1 41 = .ok (.iaload, 1) := by decide +kernel
theorem d_X11_put_42 : decode mX11_put.2.2.1 42 = .ok (.if_icmp .le 5, 3) := by decide +kernel
theorem d_X11_put_47 : decode mX11_put.2.2.1 47 = .ok (.aload_n 0, 1) := by decide +kernel
theorem d_X11_put_48 : decode mX11_put.2.2.1 48 = .ok (.getfield 37, 3) := by decide +kernel
theorem d_X11_put_51 : decode mX11_put.2.2.1 51 = .ok (.iload_n 1, 1) := by decide +kernel
