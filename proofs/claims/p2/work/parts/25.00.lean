def mX11_feed : MD := (11, yX11_feed, cX11_feed, 6, some .int)
theorem d_X11_feed_0 : decode mX11_feed.2.2.1 0 = .ok (.aload_n 0, 1) := by decide +kernel
theorem d_X11_feed_1 : decode mX11_feed.2.2.1 1 = .ok (.getfield 84, 3) := by decide +kernel
theorem f_11_84 : e_fld 11 84 11 1 14 0 false := ⟨RX11, TX11, 1, rfl, rfl, by decide, rfl, rfl, rfl, iX11, tblG_in (inT3 (List.mem_of_getElem? (i := 49) rfl)) rfl, tyX11_ok, nmX11⟩
theorem d_X11_feed_4 : decode mX11_feed.2.2.1 4 = .ok (.bipush 20, 2) := by decide +kernel
theorem d_X11_feed_6 : decode mX11_feed.2.2.1 6 = .ok (.iadd, 1) := by decide +kernel
theorem d_X11_feed_7 : decode mX11_feed.2.2.1 7 = .ok (.sipush 900, 3) := by decide +kernel
theorem d_X11_feed_10 : decode mX11_feed.2.2.1 10 = .ok (.if_icmp .le 5, 3) := by decide +kernel
theorem d_X11_feed_15 : decode mX11_feed.2.2.1 15 = .ok (.aload_n 0, 1) := by decide +kernel
theorem d_X11_feed_16 : decode mX11_feed.2.2.1 16 = .ok (.iload_n 1, 1) := by decide +kernel
theorem d_X11_feed_17 : decode mX11_feed.2.2.1 17 = .ok (.invokevirtual 88, 3) := by decide +kernel
def mX11_lay : MD := (11, yX11_lay, cX11_lay, 3, none)
theorem sel_X11_lay : Cond.instanceMethod mX11_lay.2.1 ∈ tblG ∧ Cond.selects mX11_lay.2.1.cls mX11_lay.2.1 mX11_lay.2.1 ∈ tblG := ⟨tblG_in (inT3 (List.mem_of_getElem? (i := 97) rfl)) rfl, tblG_in (inP1 (q := (mX11_lay.2.1, 14)) (List.mem_of_getElem? (i := 0) rfl)) rfl⟩
theorem s_11_88 : e_siteV 11 88 mX11_lay 11 := ⟨tblG_in (inT3 (List.mem_of_getElem? (i := 95) rfl)) rfl, sel_X11_lay.1, sel_X11_lay.2, rfl⟩
theorem d_X11_lay_0 : decode mX11_lay.2.2.1 0 = .ok (.bipush 24, 2) := by decide +kernel
theorem d_X11_lay_2 : decode mX11_lay.2.2.1 2 = .ok (.istore_n 2, 1) := by decide +kernel
theorem d_X11_lay_3 : decode mX11_lay.2.2.1 3 = .ok (.iload_n 2, 1) := by decide +kernel
theorem d_X11_lay_4 : decode mX11_lay.2.2.1 4 = .ok (.ifCond .lt 42, 3) := by decide +kernel
theorem d_X11_lay_7 : decode mX11_lay.2.2.1 7 = .ok (.aload_n 0, 1) := by decide +kernel
theorem d_X11_lay_8 : decode mX11_lay.2.2.1 8 = .ok (.getfield 84, 3) := by decide +kernel
theorem d_X11_lay_11 : decode mX11_lay.2.2.1 11 = .ok (.sipush 900, 3) := by decide +kernel
theorem d_X11_lay_14 : decode mX11_lay.2.2.1 14 = .ok (.if_icmp .ge 32, 3) := by decide +kernel
theorem d_X11_lay_46 : decode mX11_lay.2.2.1 46 = .ok (.return_, 1) := by decide +kernel
theorem d_X11_lay_17 : decode mX11_lay.2.2.1 17 = .ok (.aload_n 0, 1) := by decide +kernel
theorem d_X11_lay_18 : decode mX11_lay.2.2.1 18 = .ok (.getfield 9, 3) := by decide +kernel
theorem d_X11_lay_21 : decode mX11_lay.2.2.1 21 = .ok (.aload_n 0, 1) := by decide +kernel
theorem d_X11_lay_22 : decode mX11_lay.2.2.1 22 = .ok (.getfield 84, 3) := by decide +kernel
theorem d_X11_lay_25 : decode mX11_lay.2.2.1 25 = .ok (.iload_n 1, 1) := by decide +kernel
theorem d_X11_lay_26 : decode mX11_lay.2.2.1 26 = .ok (.iload_n 2, 1) := by decide +kernel
theorem d_X11_lay_27 : decode mX11_lay.2.2.1 27 = .ok (.ishr, 1) := by decide +kernel
theorem d_X11_lay_28 : decode mX11_lay.2.2.1 28 = .ok (.i2b, 1) := by decide +kernel
theorem d_X11_lay_29 : decode mX11_lay.2.2.1 29 = .ok (.bastore, 1) := by decide +kernel
theorem d_X11_lay_30 : decode mX11_lay.2.2.1 30 = .ok (.aload_n 0, 1) := by decide +kernel
theorem d_X11_lay_31 : decode mX11_lay.2.2.1 31 = .ok (.dup, 1) := by decide +kernel
theorem d_X11_lay_32 : decode mX11_lay.2.2.1 32 = .ok (.getfield 84, 3) := by decide +kernel
theorem d_X11_lay_35 : decode mX11_lay.2.2.1 35 = .ok (.iconst 1, 1) := by decide +kernel
theorem d_X11_lay_36 : decode mX11_lay.2.2.1 36 = .ok (.iadd, 1) := by decide +kernel
theorem d_X11_lay_37 : decode mX11_lay.2.2.1 37 = .ok (.putfield 84, 3) := by decide +kernel
theorem d_X11_lay_40 : decode mX11_lay.2.2.1 40 = .ok (.iinc 2 (-8), 3) := by decide +kernel
theorem d_X11_lay_43 : decode mX11_lay.2.2.1 43 = .ok (.goto (-40), 3) := by decide +kernel
theorem ok_X11_lay : e_m mX11_lay 1 := ⟨tblG_in (inT3 (List.mem_of_getElem? (i := 98) rfl)) rfl, plainFor_of_name (by decide), rfl, ini_11, by decide +kernel, by decide⟩
theorem d_X11_feed_20 : decode mX11_feed.2.2.1 20 = .ok (.aload_n 0, 1) := by decide +kernel
theorem d_X11_feed_21 : decode mX11_feed.2.2.1 21 = .ok (.iload_n 2, 1) := by decide +kernel
theorem d_X11_feed_22 : decode mX11_feed.2.2.1 22 = .ok (.invokevirtual 88, 3) := by decide +kernel
theorem d_X11_feed_25 : decode mX11_feed.2.2.1 25 = .ok (.aload_n 0, 1) := by decide +kernel
theorem d_X11_feed_26 : decode mX11_feed.2.2.1 26 = .ok (.iload_n 3, 1) := by decide +kernel
theorem d_X11_feed_27 : decode mX11_feed.2.2.1 27 = .ok (.invokevirtual 88, 3) := by decide +kernel
theorem d_X11_feed_30 : decode mX11_feed.2.2.1 30 = .ok (.aload_n 0, 1) := by decide +kernel
theorem d_X11_feed_31 : decode mX11_feed.2.2.1 31 = .ok (.iload 4, 2) := by decide +kernel
theorem d_X11_feed_33 : decode mX11_feed.2.2.1 33 = .ok (.invokevirtual 88, 3) := by decide +kernel
theorem d_X11_feed_36 : decode mX11_feed.2.2.1 36 = .ok (.aload_n 0, 1) := by decide +kernel
theorem d_X11_feed_37 : decode mX11_feed.2.2.1 37 = .ok (.iload 5, 2) := by decide +kernel
theorem d_X11_feed_39 : decode mX11_feed.2.2.1 39 = .ok (.invokevirtual 88, 3) := by decide +kernel
theorem d_X11_feed_42 : decode mX11_feed.2.2.1 42 = .ok (.aload_n 0, 1) := by decide +kernel
theorem d_X11_feed_43 : decode mX11_feed.2.2.1 43 = .ok (.getfield 84, 3) := by decide +kernel
theorem d_X11_feed_46 : decode mX11_feed.2.2.1 46 = .ok (.ireturn, 1) := by decide +kernel
theorem d_X11_feed_13 : decode mX11_feed.2.2.1 13 = .ok (.iconst (-1), 1) := by decide +kernel
theorem d_X11_feed_14 : decode mX11_feed.2.2.1 14 = .ok (.ireturn, 1) := by decide +kernel
def mX11_end : MD := (11, yX11_end, cX11_end, 2, some .boolean)
theorem d_X11_end_0 : decode mX11_end.2.2.1 0 = .ok (.iload_n 1, 1) := by decide +kernel
theorem d_X11_end_1 : decode mX11_end.2.2.1 1 = .ok (.ifCond .lt 11, 3) := by decide +kernel
theorem d_X11_end_12 : decode mX11_end.2.2.1 12 = .ok (.iconst 0, 1) := by decide +kernel
theorem d_X11_end_13 : decode mX11_end.2.2.1 13 = .ok (.ireturn, 1) := by decide +kernel
theorem d_X11_end_4 : decode mX11_end.2.2.1 4 = .ok (.iload_n 1, 1) := by decide +kernel
theorem d_X11_end_5 : decode mX11_end.2.2.1 5 = .ok (.aload_n 0, 1) := by decide +kernel
theorem d_X11_end_6 : decode mX11_end.2.2.1 6 = .ok (.getfield 84, 3) := by decide +kernel
theorem d_X11_end_9 : decode mX11_end.2.2.1 9 = .ok (.if_icmp .le 5, 3) := by decide +kernel
theorem d_X11_end_14 : decode mX11_end.2.2.1 14 = .ok (.aload_n 0, 1) := by decide +kernel
theorem d_X11_end_15 : decode mX11_end.2.2.1 15 = .ok (.iload_n 1, 1) := by decide +kernel
theorem d_X11_end_16 : decode mX11_end.2.2.1 16 = .ok (.putfield 84, 3) := by decide +kernel
theorem d_X11_end_19 : decode mX11_end.2.2.1 19 = .ok (.iconst 1, 1) := by decide +kernel
theorem d_X11_end_20 : decode mX11_end.2.2.1 20 = .ok (.ireturn, 1) := by decide +kernel
def mX11_fault : MD := (11, yX11_fault, cX11_fault, 2, some .int)
theorem d_X11_fault_0 : decode mX11_fault.2.2.1 0 = .ok (.iload_n 1, 1) := by decide +kernel
theorem d_X11_fault_1 : decode mX11_fault.2.2.1 1 = .ok (.ifCond .ne 11, 3) := by decide +kernel
theorem d_X11_fault_12 : decode mX11_fault.2.2.1 12 = .ok (.iload_n 1, 1) := by decide +kernel
theorem d_X11_fault_13 : decode mX11_fault.2.2.1 13 = .ok (.iconst 1, 1) := by decide +kernel
theorem d_X11_fault_14 : decode mX11_fault.2.2.1 14 = .ok (.if_icmp .ne 13, 3) := by decide +kernel
theorem d_X11_fault_27 : decode mX11_fault.2.2.1 27 = .ok (.iconst (-1), 1) := by decide +kernel
theorem d_X11_fault_28 : decode mX11_fault.2.2.1 28 = .ok (.ireturn, 1) := by decide +kernel
theorem d_X11_fault_17 : decode mX11_fault.2.2.1 17 = .ok (.aload_n 0, 1) := by decide +kernel
theorem d_X11_fault_18 : decode mX11_fault.2.2.1 18 = .ok (.getfield 23, 3) := by decide +kernel
theorem d_X11_fault_21 : decode mX11_fault.2.2.1 21 = .ok (.getfield 127, 3) := by decide +kernel
theorem f_11_127 : e_fld 11 127 5 1 7 0 false := ⟨RX5, TX5, 1, rfl, rfl, by decide, rfl, rfl, rfl, iX5, tblG_in (inT1 (List.mem_of_getElem? (i := 71) rfl)) rfl, tyX5_ok, nmX5⟩
theorem d_X11_fault_24 : decode mX11_fault.2.2.1 24 = .ok (.goto 4, 3) := by decide +kernel
theorem d_X11_fault_4 : decode mX11_fault.2.2.1 4 = .ok (.aload_n 0, 1) := by decide +kernel
theorem d_X11_fault_5 : decode mX11_fault.2.2.1 5 = .ok (.getfield 23, 3) := by decide +kernel
theorem d_X11_fault_8 : decode mX11_fault.2.2.1 8 = .ok (.getfield 124, 3) := by decide +kernel
theorem f_11_124 : e_fld 11 124 5 0 7 0 false := ⟨RX5, TX5, 0, rfl, rfl, by decide, rfl, rfl, rfl, iX5, tblG_in (inT1 (List.mem_of_getElem? (i := 69) rfl)) rfl, tyX5_ok, nmX5⟩
theorem d_X11_fault_11 : decode mX11_fault.2.2.1 11 = .ok (.ireturn, 1) := by decide +kernel
def mX11_has : MD := (11, yX11_has, cX11_has, 2, some .int)
theorem d_X11_has_0 : decode mX11_has.2.2.1 0 = .ok (.iload_n 1, 1) := by decide +kernel
theorem d_X11_has_1 : decode mX11_has.2.2.1 1 = .ok (.tableswitch 76 0 5 #[39, 39, 39, 49, 60, 68], 39) := by decide +kernel
theorem d_X11_has_77 : decode mX11_has.2.2.1 77 = .ok (.iconst (-1), 1) := by decide +kernel
theorem d_X11_has_78 : decode mX11_has.2.2.1 78 = .ok (.ireturn, 1) := by decide +kernel
theorem d_X11_has_69 : decode mX11_has.2.2.1 69 = .ok (.aload_n 0, 1) := by decide +kernel
theorem d_X11_has_70 : decode mX11_has.2.2.1 70 = .ok (.getfield 77, 3) := by decide +kernel
theorem d_X11_has_73 : decode mX11_has.2.2.1 73 = .ok (.getfield 136, 3) := by decide +kernel
theorem f_11_136 : e_fld 11 136 0 0 8 0 false := ⟨RX0, TX0, 0, rfl, rfl, by decide, rfl, rfl, rfl, iX0, tblG_in (inT3 (List.mem_of_getElem? (i := 10) rfl)) rfl, tyX0_ok, nmX0⟩
theorem d_X11_has_76 : decode mX11_has.2.2.1 76 = .ok (.ireturn, 1) := by decide +kernel
theorem d_X11_has_61 : decode mX11_has.2.2.1 61 = .ok (.aload_n 0, 1) := by decide +kernel
theorem d_X11_has_62 : decode mX11_has.2.2.1 62 = .ok (.getfield 70, 3) := by decide +kernel
theorem d_X11_has_65 : decode mX11_has.2.2.1 65 = .ok (.getfield 133, 3) := by decide +kernel
theorem f_11_133 : e_fld 11 133 2 0 7 0 false := ⟨RX2, TX2, 0, rfl, rfl, by decide, rfl, rfl, rfl, iX2, tblG_in (inT2 (List.mem_of_getElem? (i := 219) rfl)) rfl, tyX2_ok, nmX2⟩
theorem d_X11_has_68 : decode mX11_has.2.2.1 68 = .ok (.ireturn, 1) := by decide +kernel
theorem d_X11_has_50 : decode mX11_has.2.2.1 50 = .ok (.aload_n 0, 1) := by decide +kernel
theorem d_X11_has_51 : decode mX11_has.2.2.1 51 = .ok (.getfield 30, 3) := by decide +kernel
theorem d_X11_has_54 : decode mX11_has.2.2.1 54 = .ok (.getfield 115, 3) := by decide +kernel
theorem f_11_115 : e_fld 11 115 3 11 12 2 true := ⟨RX3, TX3, 11, rfl, rfl, by decide, rfl, rfl, rfl, iX3, tblG_in (inT1 (List.mem_of_getElem? (i := 206) rfl)) rfl, tyX3_ok, nmX3⟩
theorem d_X11_has_57 : decode mX11_has.2.2.1 57 = .ok (.getfield 119, 3) := by decide +kernel
theorem f_11_119 : e_fld 11 119 4 0 13 0 false := ⟨RX4, TX4, 0, rfl, rfl, by decide, rfl, rfl, rfl, iX4, tblG_in (inT1 (List.mem_of_getElem? (i := 106) rfl)) rfl, tyX4_ok, nmX4⟩
theorem d_X11_has_60 : decode mX11_has.2.2.1 60 = .ok (.ireturn, 1) := by decide +kernel
theorem d_X11_has_40 : decode mX11_has.2.2.1 40 = .ok (.aload_n 0, 1) := by decide +kernel
theorem d_X11_has_41 : decode mX11_has.2.2.1 41 = .ok (.getfield 30, 3) := by decide +kernel
theorem d_X11_has_44 : decode mX11_has.2.2.1 44 = .ok (.getfield 130, 3) := by decide +kernel
theorem f_11_130 : e_fld 11 130 3 4 12 2 true := ⟨RX3, TX3, 4, rfl, rfl, by decide, rfl, rfl, rfl, iX3, tblG_in (inT1 (List.mem_of_getElem? (i := 175) rfl)) rfl, tyX3_ok, nmX3⟩
theorem d_X11_has_47 : decode mX11_has.2.2.1 47 = .ok (.iload_n 1, 1) := by decide +kernel
theorem d_X11_has_48 : decode mX11_has.2.2.1 48 = .ok (.iaload, 1) := by decide +kernel
theorem d_X11_has_49 : decode mX11_has.2.2.1 49 = .ok (.ireturn, 1) := by decide +kernel
def mX11_put : MD := (11, yX11_put, cX11_put, 3, some .boolean)
theorem d_X11_put_0 : decode mX11_put.2.2.1 0 = .ok (.iload_n 1, 1) := by decide +kernel
theorem d_X11_put_1 : decode mX11_put.2.2.1 1 = .ok (.ifCond .lt 16, 3) := by decide +kernel
theorem d_X11_put_17 : decode mX11_put.2.2.1 17 = .ok (.iconst 0, 1) := by decide +kernel
theorem d_X11_put_18 : decode mX11_put.2.2.1 18 = .ok (.ireturn, 1) := by decide +kernel
theorem d_X11_put_4 : decode mX11_put.2.2.1 4 = .ok (.iload_n 1, 1) := by decide +kernel
theorem d_X11_put_5 : decode mX11_put.2.2.1 5 = .ok (.aload_n 0, 1) := by decide +kernel
theorem d_X11_put_6 : decode mX11_put.2.2.1 6 = .ok (.getfield 30, 3) := by decide +kernel
theorem d_X11_put_9 : decode mX11_put.2.2.1 9 = .ok (.getfield 130, 3) := by decide +kernel
theorem d_X11_put_12 : decode mX11_put.2.2.1 12 = .ok (.iconst 1, 1) := by decide +kernel
theorem d_X11_put_13 : decode mX11_put.2.2.1 13 = .ok (.iaload, 1) := by decide +kernel
theorem d_X11_put_14 : decode mX11_put.2.2.1 14 = .ok (.if_icmp .lt 5, 3) := by decide +kernel
theorem d_X11_put_19 : decode mX11_put.2.2.1 19 = .ok (.iload_n 2, 1) := by decide +kernel
theorem d_X11_put_20 : decode mX11_put.2.2.1 20 = .ok (.aload_n 0, 1) := by decide +kernel
theorem d_X11_put_21 : decode mX11_put.2.2.1 21 = .ok (.getfield 30, 3) := by decide +kernel
theorem d_X11_put_24 : decode mX11_put.2.2.1 24 = .ok (.getfield 100, 3) := by decide +kernel
theorem f_11_100 : e_fld 11 100 3 8 12 2 true := ⟨RX3, TX3, 8, rfl, rfl, by decide, rfl, rfl, rfl, iX3, tblG_in (inT1 (List.mem_of_getElem? (i := 196) rfl)) rfl, tyX3_ok, nmX3⟩
theorem d_X11_put_27 : decode mX11_put.2.2.1 27 = .ok (.iload_n 1, 1) := by decide +kernel
theorem d_X11_put_28 : decode mX11_put.2.2.1 28 = .ok (.iaload, 1) := by decide +kernel
theorem d_X11_put_29 : decode mX11_put.2.2.1 29 = .ok (.if_icmp .lt 16, 3) := by decide +kernel
theorem d_X11_put_45 : decode mX11_put.2.2.1 45 = .ok (.iconst 0, 1) := by decide +kernel
theorem d_X11_put_46 : decode mX11_put.2.2.1 46 = .ok (.ireturn, 1) := by decide +kernel
theorem d_X11_put_32 : decode mX11_put.2.2.1 32 = .ok (.iload_n 2, 1) := by decide +kernel
theorem d_X11_put_33 : decode mX11_put.2.2.1 33 = .ok (.aload_n 0, 1) := by decide +kernel
theorem d_X11_put_34 : decode mX11_put.2.2.1 34 = .ok (.getfield 30, 3) := by decide +kernel
theorem d_X11_put_37 : decode mX11_put.2.2.1 37 = .ok (.getfield 141, 3) := by decide +kernel
theorem f_11_141 : e_fld 11 141 3 9 12 2 true := ⟨RX3, TX3, 9, rfl, rfl, by decide, rfl, rfl, rfl, iX3, tblG_in (inT1 (List.mem_of_getElem? (i := 200) rfl)) rfl, tyX3_ok, nmX3⟩
theorem d_X11_put_40 : decode mX11_put.2.2.1 40 = .ok (.iload_n 1, 1) := by decide +kernel
theorem d_X11_put_41 : decode mX11_put.2.2.1 41 = .ok (.iaload, 1) := by decide +kernel
theorem d_X11_put_42 : decode mX11_put.2.2.1 42 = .ok (.if_icmp .le 5, 3) := by decide +kernel
theorem d_X11_put_47 : decode mX11_put.2.2.1 47 = .ok (.aload_n 0, 1) := by decide +kernel
theorem d_X11_put_48 : decode mX11_put.2.2.1 48 = .ok (.getfield 37, 3) := by decide +kernel
theorem d_X11_put_51 : decode mX11_put.2.2.1 51 = .ok (.iload_n 1, 1) := by decide +kernel
theorem d_X11_put_52 : decode mX11_put.2.2.1 52 = .ok (.iload_n 2, 1) := by decide +kernel
theorem d_X11_put_53 : decode mX11_put.2.2.1 53 = .ok (.iastore, 1) := by decide +kernel
theorem d_X11_put_54 : decode mX11_put.2.2.1 54 = .ok (.iconst 1, 1) := by decide +kernel
theorem d_X11_put_55 : decode mX11_put.2.2.1 55 = .ok (.ireturn, 1) := by decide +kernel
def mX11_ran : MD := (11, yX11_ran, cX11_ran, 2, some .int)
theorem d_X11_ran_0 : decode mX11_ran.2.2.1 0 = .ok (.aload_n 0, 1) := by decide +kernel
theorem d_X11_ran_1 : decode mX11_ran.2.2.1 1 = .ok (.getfield 109, 3) := by decide +kernel
theorem f_11_109 : e_fld 11 109 11 9 14 3 false := ⟨RX11, TX11, 9, rfl, rfl, by decide, rfl, rfl, rfl, iX11, tblG_in (inT3 (List.mem_of_getElem? (i := 57) rfl)) rfl, tyX11_ok, nmX11⟩
theorem d_X11_ran_4 : decode mX11_ran.2.2.1 4 = .ok (.ifCond .ne 5, 3) := by decide +kernel
theorem d_X11_ran_7 : decode mX11_ran.2.2.1 7 = .ok (.iconst (-1), 1) := by decide +kernel
theorem d_X11_ran_8 : decode mX11_ran.2.2.1 8 = .ok (.ireturn, 1) := by decide +kernel
theorem d_X11_ran_9 : decode mX11_ran.2.2.1 9 = .ok (.iload_n 1, 1) := by decide +kernel
theorem d_X11_ran_10 : decode mX11_ran.2.2.1 10 = .ok (.tableswitch 86 0 5 #[38, 46, 54, 62, 70, 78], 38) := by decide +kernel
theorem d_X11_ran_96 : decode mX11_ran.2.2.1 96 = .ok (.iconst (-1), 1) := by decide +kernel
theorem d_X11_ran_97 : decode mX11_ran.2.2.1 97 = .ok (.ireturn, 1) := by decide +kernel
theorem d_X11_ran_88 : decode mX11_ran.2.2.1 88 = .ok (.aload_n 0, 1) := by decide +kernel
theorem d_X11_ran_89 : decode mX11_ran.2.2.1 89 = .ok (.getfield 46, 3) := by decide +kernel
theorem d_X11_ran_92 : decode mX11_ran.2.2.1 92 = .ok (.getfield 167, 3) := by decide +kernel
theorem f_11_167 : e_fld 11 167 6 15 18 0 false := ⟨RX6, TX6, 15, rfl, rfl, by decide, rfl, rfl, rfl, iX6, tblG_in (inT2 (List.mem_of_getElem? (i := 124) rfl)) rfl, tyX6_ok, nmX6⟩
theorem d_X11_ran_95 : decode mX11_ran.2.2.1 95 = .ok (.ireturn, 1) := by decide +kernel
theorem d_X11_ran_80 : decode mX11_ran.2.2.1 80 = .ok (.aload_n 0, 1) := by decide +kernel
theorem d_X11_ran_81 : decode mX11_ran.2.2.1 81 = .ok (.getfield 46, 3) := by decide +kernel
theorem d_X11_ran_84 : decode mX11_ran.2.2.1 84 = .ok (.getfield 164, 3) := by decide +kernel
theorem f_11_164 : e_fld 11 164 6 11 18 0 false := ⟨RX6, TX6, 11, rfl, rfl, by decide, rfl, rfl, rfl, iX6, tblG_in (inT2 (List.mem_of_getElem? (i := 116) rfl)) rfl, tyX6_ok, nmX6⟩
theorem d_X11_ran_87 : decode mX11_ran.2.2.1 87 = .ok (.ireturn, 1) := by decide +kernel
theorem d_X11_ran_72 : decode mX11_ran.2.2.1 72 = .ok (.aload_n 0, 1) := by decide +kernel
theorem d_X11_ran_73 : decode mX11_ran.2.2.1 73 = .ok (.getfield 46, 3) := by decide +kernel
theorem d_X11_ran_76 : decode mX11_ran.2.2.1 76 = .ok (.getfield 161, 3) := by decide +kernel
theorem f_11_161 : e_fld 11 161 6 13 18 0 false := ⟨RX6, TX6, 13, rfl, rfl, by decide, rfl, rfl, rfl, iX6, tblG_in (inT2 (List.mem_of_getElem? (i := 120) rfl)) rfl, tyX6_ok, nmX6⟩
theorem d_X11_ran_79 : decode mX11_ran.2.2.1 79 = .ok (.ireturn, 1) := by decide +kernel
theorem d_X11_ran_64 : decode mX11_ran.2.2.1 64 = .ok (.aload_n 0, 1) := by decide +kernel
theorem d_X11_ran_65 : decode mX11_ran.2.2.1 65 = .ok (.getfield 46, 3) := by decide +kernel
theorem d_X11_ran_68 : decode mX11_ran.2.2.1 68 = .ok (.getfield 158, 3) := by decide +kernel
theorem f_11_158 : e_fld 11 158 6 12 18 0 false := ⟨RX6, TX6, 12, rfl, rfl, by decide, rfl, rfl, rfl, iX6, tblG_in (inT2 (List.mem_of_getElem? (i := 118) rfl)) rfl, tyX6_ok, nmX6⟩
theorem d_X11_ran_71 : decode mX11_ran.2.2.1 71 = .ok (.ireturn, 1) := by decide +kernel
theorem d_X11_ran_56 : decode mX11_ran.2.2.1 56 = .ok (.aload_n 0, 1) := by decide +kernel
theorem d_X11_ran_57 : decode mX11_ran.2.2.1 57 = .ok (.getfield 46, 3) := by decide +kernel
theorem d_X11_ran_60 : decode mX11_ran.2.2.1 60 = .ok (.getfield 155, 3) := by decide +kernel
theorem f_11_155 : e_fld 11 155 6 10 18 0 false := ⟨RX6, TX6, 10, rfl, rfl, by decide, rfl, rfl, rfl, iX6, tblG_in (inT2 (List.mem_of_getElem? (i := 114) rfl)) rfl, tyX6_ok, nmX6⟩
theorem d_X11_ran_63 : decode mX11_ran.2.2.1 63 = .ok (.ireturn, 1) := by decide +kernel
theorem d_X11_ran_48 : decode mX11_ran.2.2.1 48 = .ok (.aload_n 0, 1) := by decide +kernel
theorem d_X11_ran_49 : decode mX11_ran.2.2.1 49 = .ok (.getfield 46, 3) := by decide +kernel
theorem d_X11_ran_52 : decode mX11_ran.2.2.1 52 = .ok (.getfield 152, 3) := by decide +kernel
theorem f_11_152 : e_fld 11 152 6 9 18 0 false := ⟨RX6, TX6, 9, rfl, rfl, by decide, rfl, rfl, rfl, iX6, tblG_in (inT2 (List.mem_of_getElem? (i := 111) rfl)) rfl, tyX6_ok, nmX6⟩
theorem d_X11_ran_55 : decode mX11_ran.2.2.1 55 = .ok (.ireturn, 1) := by decide +kernel
def mX11_value : MD := (11, yX11_value, cX11_value, 2, some .int)
theorem d_X11_value_0 : decode mX11_value.2.2.1 0 = .ok (.aload_n 0, 1) := by decide +kernel
theorem d_X11_value_1 : decode mX11_value.2.2.1 1 = .ok (.getfield 109, 3) := by decide +kernel
theorem d_X11_value_4 : decode mX11_value.2.2.1 4 = .ok (.ifCond .eq 20, 3) := by decide +kernel
theorem d_X11_value_24 : decode mX11_value.2.2.1 24 = .ok (.ldc 170, 2) := by decide +kernel
theorem k_11_170 : Jvm.Cond.constant (e_cn 11) 170 (Int32.ofInt (-2000000000)) ∈ tblG := tblG_in (inT5 (List.mem_of_getElem? (i := 173) rfl)) rfl
theorem d_X11_value_26 : decode mX11_value.2.2.1 26 = .ok (.ireturn, 1) := by decide +kernel
theorem d_X11_value_7 : decode mX11_value.2.2.1 7 = .ok (.iload_n 1, 1) := by decide +kernel
theorem d_X11_value_8 : decode mX11_value.2.2.1 8 = .ok (.ifCond .lt 16, 3) := by decide +kernel
theorem d_X11_value_11 : decode mX11_value.2.2.1 11 = .ok (.iload_n 1, 1) := by decide +kernel
theorem d_X11_value_12 : decode mX11_value.2.2.1 12 = .ok (.aload_n 0, 1) := by decide +kernel
theorem d_X11_value_13 : decode mX11_value.2.2.1 13 = .ok (.getfield 30, 3) := by decide +kernel
theorem d_X11_value_16 : decode mX11_value.2.2.1 16 = .ok (.getfield 130, 3) := by decide +kernel
theorem d_X11_value_19 : decode mX11_value.2.2.1 19 = .ok (.iconst 2, 1) := by decide +kernel
theorem d_X11_value_20 : decode mX11_value.2.2.1 20 = .ok (.iaload, 1) := by decide +kernel
theorem d_X11_value_21 : decode mX11_value.2.2.1 21 = .ok (.if_icmp .lt 6, 3) := by decide +kernel
theorem d_X11_value_27 : decode mX11_value.2.2.1 27 = .ok (.aload_n 0, 1) := by decide +kernel
theorem d_X11_value_28 : decode mX11_value.2.2.1 28 = .ok (.getfield 46, 3) := by decide +kernel
theorem d_X11_value_31 : decode mX11_value.2.2.1 31 = .ok (.getfield 171, 3) := by decide +kernel
theorem f_11_171 : e_fld 11 171 6 3 18 2 true := ⟨RX6, TX6, 3, rfl, rfl, by decide, rfl, rfl, rfl, iX6, tblG_in (inT2 (List.mem_of_getElem? (i := 104) rfl)) rfl, tyX6_ok, nmX6⟩
theorem d_X11_value_34 : decode mX11_value.2.2.1 34 = .ok (.iload_n 1, 1) := by decide +kernel
theorem d_X11_value_35 : decode mX11_value.2.2.1 35 = .ok (.iaload, 1) := by decide +kernel
theorem d_X11_value_36 : decode mX11_value.2.2.1 36 = .ok (.ireturn, 1) := by decide +kernel
def mX11_spent : MD := (11, yX11_spent, cX11_spent, 3, some .int)
theorem d_X11_spent_0 : decode mX11_spent.2.2.1 0 = .ok (.aload_n 0, 1) := by decide +kernel
theorem d_X11_spent_1 : decode mX11_spent.2.2.1 1 = .ok (.getfield 109, 3) := by decide +kernel
theorem d_X11_spent_4 : decode mX11_spent.2.2.1 4 = .ok (.ifCond .eq 20, 3) := by decide +kernel
theorem d_X11_spent_24 : decode mX11_spent.2.2.1 24 = .ok (.iconst (-1), 1) := by decide +kernel
theorem d_X11_spent_25 : decode mX11_spent.2.2.1 25 = .ok (.ireturn, 1) := by decide +kernel
theorem d_X11_spent_7 : decode mX11_spent.2.2.1 7 = .ok (.aload_n 0, 1) := by decide +kernel
theorem d_X11_spent_8 : decode mX11_spent.2.2.1 8 = .ok (.iload_n 1, 1) := by decide +kernel
theorem d_X11_spent_9 : decode mX11_spent.2.2.1 9 = .ok (.invokevirtual 174, 3) := by decide +kernel
def mX11_isPart : MD := (11, yX11_isPart, cX11_isPart, 2, some .boolean)
