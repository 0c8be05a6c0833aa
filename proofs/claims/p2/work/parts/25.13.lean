theorem d_X10_begin_14 : decode mX10_begin.2.2.1 14 = .ok (.aload_n 0, 1) := by decide +kernel
theorem d_X10_begin_15 : decode mX10_begin.2.2.1 15 = .ok (.getfield 21, 3) := by decide +kernel
theorem d_X10_begin_18 : decode mX10_begin.2.2.1 18 = .ok (.ifCond .eq 7, 3) := by decide +kernel
theorem d_X10_begin_25 : decode mX10_begin.2.2.1 25 = .ok (.aload_n 1, 1) := by decide +kernel
theorem d_X10_begin_26 : decode mX10_begin.2.2.1 26 = .ok (.invokestatic 42, 3) := by decide +kernel
def mX10_count : MD := (10, yX10_count, cX10_count, 3, some .int)
theorem s_10_42 : e_siteS 10 42 mX10_count := ⟨tblG_in (inT6 (List.mem_of_getElem? (i := 59) rfl)) rfl, tblG_in (inT6 (List.mem_of_getElem? (i := 60) rfl)) rfl⟩
theorem d_X10_count_0 : decode mX10_count.2.2.1 0 = .ok (.iconst 1, 1) := by decide +kernel
theorem d_X10_count_1 : decode mX10_count.2.2.1 1 = .ok (.istore_n 1, 1) := by decide +kernel
theorem d_X10_count_2 : decode mX10_count.2.2.1 2 = .ok (.iconst 0, 1) := by decide +kernel
theorem d_X10_count_3 : decode mX10_count.2.2.1 3 = .ok (.istore_n 2, 1) := by decide +kernel
theorem d_X10_count_4 : decode mX10_count.2.2.1 4 = .ok (.iload_n 2, 1) := by decide +kernel
theorem d_X10_count_5 : decode mX10_count.2.2.1 5 = .ok (.aload_n 0, 1) := by decide +kernel
theorem d_X10_count_6 : decode mX10_count.2.2.1 6 = .ok (.getfield 25, 3) := by decide +kernel
theorem f_10_25 : e_fld 10 25 3 4 12 2 true := ⟨RX3, TX3, 4, rfl, rfl, by decide, rfl, rfl, rfl, iX3, tblG_in (inT1 (List.mem_of_getElem? (i := 173) rfl)) rfl, tyX3_ok, nmX3⟩
theorem d_X10_count_9 : decode mX10_count.2.2.1 9 = .ok (.iconst 1, 1) := by decide +kernel
theorem d_X10_count_10 : decode mX10_count.2.2.1 10 = .ok (.iaload, 1) := by decide +kernel
theorem d_X10_count_11 : decode mX10_count.2.2.1 11 = .ok (.if_icmp .ge 27, 3) := by decide +kernel
theorem d_X10_count_38 : decode mX10_count.2.2.1 38 = .ok (.iload_n 1, 1) := by decide +kernel
theorem d_X10_count_39 : decode mX10_count.2.2.1 39 = .ok (.ireturn, 1) := by decide +kernel
theorem d_X10_count_14 : decode mX10_count.2.2.1 14 = .ok (.iload_n 1, 1) := by decide +kernel
theorem d_X10_count_15 : decode mX10_count.2.2.1 15 = .ok (.aload_n 0, 1) := by decide +kernel
theorem d_X10_count_16 : decode mX10_count.2.2.1 16 = .ok (.getfield 30, 3) := by decide +kernel
theorem f_10_30 : e_fld 10 30 3 9 12 2 true := ⟨RX3, TX3, 9, rfl, rfl, by decide, rfl, rfl, rfl, iX3, tblG_in (inT1 (List.mem_of_getElem? (i := 199) rfl)) rfl, tyX3_ok, nmX3⟩
theorem d_X10_count_19 : decode mX10_count.2.2.1 19 = .ok (.iload_n 2, 1) := by decide +kernel
theorem d_X10_count_20 : decode mX10_count.2.2.1 20 = .ok (.iaload, 1) := by decide +kernel
theorem d_X10_count_21 : decode mX10_count.2.2.1 21 = .ok (.aload_n 0, 1) := by decide +kernel
theorem d_X10_count_22 : decode mX10_count.2.2.1 22 = .ok (.getfield 33, 3) := by decide +kernel
theorem d_X10_count_25 : decode mX10_count.2.2.1 25 = .ok (.iload_n 2, 1) := by decide +kernel
theorem d_X10_count_26 : decode mX10_count.2.2.1 26 = .ok (.iaload, 1) := by decide +kernel
theorem d_X10_count_27 : decode mX10_count.2.2.1 27 = .ok (.isub, 1) := by decide +kernel
theorem d_X10_count_28 : decode mX10_count.2.2.1 28 = .ok (.iconst 1, 1) := by decide +kernel
theorem d_X10_count_29 : decode mX10_count.2.2.1 29 = .ok (.iadd, 1) := by decide +kernel
theorem d_X10_count_30 : decode mX10_count.2.2.1 30 = .ok (.imul, 1) := by decide +kernel
theorem d_X10_count_31 : decode mX10_count.2.2.1 31 = .ok (.istore_n 1, 1) := by decide +kernel
theorem d_X10_count_32 : decode mX10_count.2.2.1 32 = .ok (.iinc 2 1, 3) := by decide +kernel
theorem d_X10_count_35 : decode mX10_count.2.2.1 35 = .ok (.goto (-31), 3) := by decide +kernel
theorem ok_X10_count : e_m mX10_count 1 := ⟨tblG_in (inT6 (List.mem_of_getElem? (i := 61) rfl)) rfl, plainFor_of_name (by decide), rfl, ini_10, by decide +kernel, by decide⟩
theorem d_X10_begin_29 : decode mX10_begin.2.2.1 29 = .ok (.ireturn, 1) := by decide +kernel
theorem d_X10_begin_21 : decode mX10_begin.2.2.1 21 = .ok (.iconst 0, 1) := by decide +kernel
theorem d_X10_begin_22 : decode mX10_begin.2.2.1 22 = .ok (.goto 7, 3) := by decide +kernel
theorem ok_X10_begin : e_m mX10_begin 1 := ⟨tblG_in (inT6 (List.mem_of_getElem? (i := 57) rfl)) rfl, plainFor_of_name (by decide), rfl, ini_10, by decide +kernel, by decide⟩
theorem d_X11_over_11 : decode mX11_over.2.2.1 11 = .ok (.istore_n 2, 1) := by decide +kernel
theorem d_X11_over_12 : decode mX11_over.2.2.1 12 = .ok (.iload_n 2, 1) := by decide +kernel
theorem d_X11_over_13 : decode mX11_over.2.2.1 13 = .ok (.sipush 256, 3) := by decide +kernel
theorem d_X11_over_16 : decode mX11_over.2.2.1 16 = .ok (.if_icmp .le 5, 3) := by decide +kernel
theorem d_X11_over_21 : decode mX11_over.2.2.1 21 = .ok (.iconst 0, 1) := by decide +kernel
theorem d_X11_over_22 : decode mX11_over.2.2.1 22 = .ok (.istore_n 3, 1) := by decide +kernel
theorem d_X11_over_19 : decode mX11_over.2.2.1 19 = .ok (.iconst (-1), 1) := by decide +kernel
theorem d_X11_over_20 : decode mX11_over.2.2.1 20 = .ok (.ireturn, 1) := by decide +kernel
theorem d_X11_over_23 : decode mX11_over.2.2.1 23 = .ok (.iload_n 3, 1) := by decide +kernel
theorem d_X11_over_24 : decode mX11_over.2.2.1 24 = .ok (.iload_n 2, 1) := by decide +kernel
theorem d_X11_over_25 : decode mX11_over.2.2.1 25 = .ok (.if_icmp .ge 62, 3) := by decide +kernel
theorem d_X11_over_87 : decode mX11_over.2.2.1 87 = .ok (.aload_n 0, 1) := by decide +kernel
theorem d_X11_over_88 : decode mX11_over.2.2.1 88 = .ok (.getfield 63, 3) := by decide +kernel
theorem d_X11_over_91 : decode mX11_over.2.2.1 91 = .ok (.iload_n 1, 1) := by decide +kernel
theorem d_X11_over_92 : decode mX11_over.2.2.1 92 = .ok (.invokevirtual 264, 3) := by decide +kernel
def mX10_choose : MD := (10, yX10_choose, cX10_choose, 2, some .int)
theorem sel_X10_choose : Cond.instanceMethod mX10_choose.2.1 ∈ tblG ∧ Cond.selects mX10_choose.2.1.cls mX10_choose.2.1 mX10_choose.2.1 ∈ tblG := ⟨tblG_in (inT6 (List.mem_of_getElem? (i := 71) rfl)) rfl, tblG_in (inT6 (List.mem_of_getElem? (i := 72) rfl)) rfl⟩
theorem s_11_264 : e_siteV 11 264 mX10_choose 10 := ⟨tblG_in (inT6 (List.mem_of_getElem? (i := 70) rfl)) rfl, sel_X10_choose.1, sel_X10_choose.2, rfl⟩
theorem d_X10_choose_0 : decode mX10_choose.2.2.1 0 = .ok (.aload_n 0, 1) := by decide +kernel
theorem d_X10_choose_1 : decode mX10_choose.2.2.1 1 = .ok (.iconst 1, 1) := by decide +kernel
theorem d_X10_choose_2 : decode mX10_choose.2.2.1 2 = .ok (.putfield 21, 3) := by decide +kernel
theorem d_X10_choose_5 : decode mX10_choose.2.2.1 5 = .ok (.aload_n 0, 1) := by decide +kernel
theorem d_X10_choose_6 : decode mX10_choose.2.2.1 6 = .ok (.iload_n 1, 1) := by decide +kernel
theorem d_X10_choose_7 : decode mX10_choose.2.2.1 7 = .ok (.putfield 52, 3) := by decide +kernel
theorem d_X10_choose_10 : decode mX10_choose.2.2.1 10 = .ok (.iload_n 1, 1) := by decide +kernel
theorem d_X10_choose_11 : decode mX10_choose.2.2.1 11 = .ok (.ifCond .eq 10, 3) := by decide +kernel
theorem d_X10_choose_21 : decode mX10_choose.2.2.1 21 = .ok (.aload_n 0, 1) := by decide +kernel
theorem d_X10_choose_22 : decode mX10_choose.2.2.1 22 = .ok (.getfield 50, 3) := by decide +kernel
theorem f_10_50 : e_fld 10 50 10 3 7 0 false := ⟨RX10, TX10, 3, rfl, rfl, by decide, rfl, rfl, rfl, iX10, tblG_in (inT2 (List.mem_of_getElem? (i := 192) rfl)) rfl, tyX10_ok, nmX10⟩
theorem d_X10_choose_25 : decode mX10_choose.2.2.1 25 = .ok (.ireturn, 1) := by decide +kernel
theorem d_X10_choose_14 : decode mX10_choose.2.2.1 14 = .ok (.aload_n 0, 1) := by decide +kernel
theorem d_X10_choose_15 : decode mX10_choose.2.2.1 15 = .ok (.getfield 46, 3) := by decide +kernel
theorem f_10_46 : e_fld 10 46 10 2 7 0 false := ⟨RX10, TX10, 2, rfl, rfl, by decide, rfl, rfl, rfl, iX10, tblG_in (inT2 (List.mem_of_getElem? (i := 191) rfl)) rfl, tyX10_ok, nmX10⟩
theorem d_X10_choose_18 : decode mX10_choose.2.2.1 18 = .ok (.goto 7, 3) := by decide +kernel
theorem ok_X10_choose : e_m mX10_choose 1 := ⟨tblG_in (inT6 (List.mem_of_getElem? (i := 73) rfl)) rfl, plainFor_of_name (by decide), rfl, ini_10, by decide +kernel, by decide⟩
theorem d_X11_over_95 : decode mX11_over.2.2.1 95 = .ok (.ireturn, 1) := by decide +kernel
theorem d_X11_over_28 : decode mX11_over.2.2.1 28 = .ok (.aload_n 0, 1) := by decide +kernel
theorem d_X11_over_29 : decode mX11_over.2.2.1 29 = .ok (.getfield 50, 3) := by decide +kernel
theorem d_X11_over_32 : decode mX11_over.2.2.1 32 = .ok (.aload_n 0, 1) := by decide +kernel
theorem d_X11_over_33 : decode mX11_over.2.2.1 33 = .ok (.getfield 30, 3) := by decide +kernel
theorem d_X11_over_36 : decode mX11_over.2.2.1 36 = .ok (.aload_n 0, 1) := by decide +kernel
theorem d_X11_over_37 : decode mX11_over.2.2.1 37 = .ok (.getfield 63, 3) := by decide +kernel
theorem d_X11_over_40 : decode mX11_over.2.2.1 40 = .ok (.getfield 253, 3) := by decide +kernel
theorem f_11_253 : e_fld 11 253 10 4 7 2 true := ⟨RX10, TX10, 4, rfl, rfl, by decide, rfl, rfl, rfl, iX10, tblG_in (inT2 (List.mem_of_getElem? (i := 194) rfl)) rfl, tyX10_ok, nmX10⟩
theorem d_X11_over_43 : decode mX11_over.2.2.1 43 = .ok (.iconst (-1), 1) := by decide +kernel
theorem d_X11_over_44 : decode mX11_over.2.2.1 44 = .ok (.invokevirtual 144, 3) := by decide +kernel
theorem d_X11_over_47 : decode mX11_over.2.2.1 47 = .ok (.aload_n 0, 1) := by decide +kernel
theorem d_X11_over_48 : decode mX11_over.2.2.1 48 = .ok (.getfield 63, 3) := by decide +kernel
theorem d_X11_over_51 : decode mX11_over.2.2.1 51 = .ok (.aload_n 0, 1) := by decide +kernel
theorem d_X11_over_52 : decode mX11_over.2.2.1 52 = .ok (.getfield 50, 3) := by decide +kernel
theorem d_X11_over_55 : decode mX11_over.2.2.1 55 = .ok (.getfield 155, 3) := by decide +kernel
theorem d_X11_over_58 : decode mX11_over.2.2.1 58 = .ok (.iload_n 3, 1) := by decide +kernel
theorem d_X11_over_59 : decode mX11_over.2.2.1 59 = .ok (.ifCond .ne 7, 3) := by decide +kernel
theorem d_X11_over_62 : decode mX11_over.2.2.1 62 = .ok (.iconst 1, 1) := by decide +kernel
theorem d_X11_over_63 : decode mX11_over.2.2.1 63 = .ok (.goto 4, 3) := by decide +kernel
theorem d_X11_over_67 : decode mX11_over.2.2.1 67 = .ok (.invokevirtual 256, 3) := by decide +kernel
def mX10_compare : MD := (10, yX10_compare, cX10_compare, 3, none)
theorem sel_X10_compare : Cond.instanceMethod mX10_compare.2.1 ∈ tblG ∧ Cond.selects mX10_compare.2.1.cls mX10_compare.2.1 mX10_compare.2.1 ∈ tblG := ⟨tblG_in (inT6 (List.mem_of_getElem? (i := 63) rfl)) rfl, tblG_in (inT6 (List.mem_of_getElem? (i := 64) rfl)) rfl⟩
theorem s_11_256 : e_siteV 11 256 mX10_compare 10 := ⟨tblG_in (inT6 (List.mem_of_getElem? (i := 62) rfl)) rfl, sel_X10_compare.1, sel_X10_compare.2, rfl⟩
theorem d_X10_compare_0 : decode mX10_compare.2.2.1 0 = .ok (.iload_n 2, 1) := by decide +kernel
theorem d_X10_compare_1 : decode mX10_compare.2.2.1 1 = .ok (.ifCond .ne 11, 3) := by decide +kernel
theorem d_X10_compare_12 : decode mX10_compare.2.2.1 12 = .ok (.aload_n 0, 1) := by decide +kernel
theorem d_X10_compare_13 : decode mX10_compare.2.2.1 13 = .ok (.iload_n 1, 1) := by decide +kernel
theorem d_X10_compare_14 : decode mX10_compare.2.2.1 14 = .ok (.putfield 46, 3) := by decide +kernel
theorem d_X10_compare_17 : decode mX10_compare.2.2.1 17 = .ok (.aload_n 0, 1) := by decide +kernel
theorem d_X10_compare_18 : decode mX10_compare.2.2.1 18 = .ok (.getfield 9, 3) := by decide +kernel
theorem d_X10_compare_21 : decode mX10_compare.2.2.1 21 = .ok (.iconst 0, 1) := by decide +kernel
theorem d_X10_compare_22 : decode mX10_compare.2.2.1 22 = .ok (.aload_n 0, 1) := by decide +kernel
theorem d_X10_compare_23 : decode mX10_compare.2.2.1 23 = .ok (.getfield 15, 3) := by decide +kernel
theorem d_X10_compare_26 : decode mX10_compare.2.2.1 26 = .ok (.iconst 0, 1) := by decide +kernel
theorem d_X10_compare_27 : decode mX10_compare.2.2.1 27 = .ok (.iconst 3, 1) := by decide +kernel
theorem d_X10_compare_28 : decode mX10_compare.2.2.1 28 = .ok (.invokestatic 36, 3) := by decide +kernel
theorem d_X10_compare_31 : decode mX10_compare.2.2.1 31 = .ok (.iload_n 2, 1) := by decide +kernel
theorem d_X10_compare_32 : decode mX10_compare.2.2.1 32 = .ok (.ifCond .ne 11, 3) := by decide +kernel
theorem d_X10_compare_43 : decode mX10_compare.2.2.1 43 = .ok (.aload_n 0, 1) := by decide +kernel
theorem d_X10_compare_44 : decode mX10_compare.2.2.1 44 = .ok (.iload_n 1, 1) := by decide +kernel
theorem d_X10_compare_45 : decode mX10_compare.2.2.1 45 = .ok (.putfield 50, 3) := by decide +kernel
theorem d_X10_compare_48 : decode mX10_compare.2.2.1 48 = .ok (.aload_n 0, 1) := by decide +kernel
theorem d_X10_compare_49 : decode mX10_compare.2.2.1 49 = .ok (.getfield 9, 3) := by decide +kernel
theorem d_X10_compare_52 : decode mX10_compare.2.2.1 52 = .ok (.iconst 0, 1) := by decide +kernel
theorem d_X10_compare_53 : decode mX10_compare.2.2.1 53 = .ok (.aload_n 0, 1) := by decide +kernel
theorem d_X10_compare_54 : decode mX10_compare.2.2.1 54 = .ok (.getfield 18, 3) := by decide +kernel
theorem d_X10_compare_57 : decode mX10_compare.2.2.1 57 = .ok (.iconst 0, 1) := by decide +kernel
theorem d_X10_compare_58 : decode mX10_compare.2.2.1 58 = .ok (.iconst 3, 1) := by decide +kernel
theorem d_X10_compare_59 : decode mX10_compare.2.2.1 59 = .ok (.invokestatic 36, 3) := by decide +kernel
theorem d_X10_compare_62 : decode mX10_compare.2.2.1 62 = .ok (.return_, 1) := by decide +kernel
theorem ok_X10_compare : e_m mX10_compare 2 := ⟨tblG_in (inT6 (List.mem_of_getElem? (i := 65) rfl)) rfl, plainFor_of_name (by decide), rfl, ini_10, by decide +kernel, by decide⟩
theorem d_X11_over_70 : decode mX11_over.2.2.1 70 = .ok (.aload_n 0, 1) := by decide +kernel
theorem d_X11_over_71 : decode mX11_over.2.2.1 71 = .ok (.getfield 63, 3) := by decide +kernel
theorem d_X11_over_74 : decode mX11_over.2.2.1 74 = .ok (.aload_n 0, 1) := by decide +kernel
theorem d_X11_over_75 : decode mX11_over.2.2.1 75 = .ok (.getfield 30, 3) := by decide +kernel
theorem d_X11_over_78 : decode mX11_over.2.2.1 78 = .ok (.invokevirtual 260, 3) := by decide +kernel
def mX10_turnOn : MD := (10, yX10_turnOn, cX10_turnOn, 3, none)
theorem sel_X10_turnOn : Cond.instanceMethod mX10_turnOn.2.1 ∈ tblG ∧ Cond.selects mX10_turnOn.2.1.cls mX10_turnOn.2.1 mX10_turnOn.2.1 ∈ tblG := ⟨tblG_in (inT6 (List.mem_of_getElem? (i := 67) rfl)) rfl, tblG_in (inT6 (List.mem_of_getElem? (i := 68) rfl)) rfl⟩
theorem s_11_260 : e_siteV 11 260 mX10_turnOn 10 := ⟨tblG_in (inT6 (List.mem_of_getElem? (i := 66) rfl)) rfl, sel_X10_turnOn.1, sel_X10_turnOn.2, rfl⟩
theorem d_X10_turnOn_0 : decode mX10_turnOn.2.2.1 0 = .ok (.aload_n 1, 1) := by decide +kernel
theorem d_X10_turnOn_1 : decode mX10_turnOn.2.2.1 1 = .ok (.getfield 25, 3) := by decide +kernel
theorem d_X10_turnOn_4 : decode mX10_turnOn.2.2.1 4 = .ok (.iconst 1, 1) := by decide +kernel
theorem d_X10_turnOn_5 : decode mX10_turnOn.2.2.1 5 = .ok (.iaload, 1) := by decide +kernel
theorem d_X10_turnOn_6 : decode mX10_turnOn.2.2.1 6 = .ok (.iconst 1, 1) := by decide +kernel
theorem d_X10_turnOn_7 : decode mX10_turnOn.2.2.1 7 = .ok (.isub, 1) := by decide +kernel
theorem d_X10_turnOn_8 : decode mX10_turnOn.2.2.1 8 = .ok (.istore_n 2, 1) := by decide +kernel
theorem d_X10_turnOn_9 : decode mX10_turnOn.2.2.1 9 = .ok (.iload_n 2, 1) := by decide +kernel
theorem d_X10_turnOn_10 : decode mX10_turnOn.2.2.1 10 = .ok (.ifCond .lt 47, 3) := by decide +kernel
theorem d_X10_turnOn_57 : decode mX10_turnOn.2.2.1 57 = .ok (.return_, 1) := by decide +kernel
theorem d_X10_turnOn_13 : decode mX10_turnOn.2.2.1 13 = .ok (.aload_n 0, 1) := by decide +kernel
theorem d_X10_turnOn_14 : decode mX10_turnOn.2.2.1 14 = .ok (.getfield 9, 3) := by decide +kernel
theorem d_X10_turnOn_17 : decode mX10_turnOn.2.2.1 17 = .ok (.iload_n 2, 1) := by decide +kernel
theorem d_X10_turnOn_18 : decode mX10_turnOn.2.2.1 18 = .ok (.iaload, 1) := by decide +kernel
theorem d_X10_turnOn_19 : decode mX10_turnOn.2.2.1 19 = .ok (.aload_n 1, 1) := by decide +kernel
theorem d_X10_turnOn_20 : decode mX10_turnOn.2.2.1 20 = .ok (.getfield 30, 3) := by decide +kernel
theorem d_X10_turnOn_23 : decode mX10_turnOn.2.2.1 23 = .ok (.iload_n 2, 1) := by decide +kernel
theorem d_X10_turnOn_24 : decode mX10_turnOn.2.2.1 24 = .ok (.iaload, 1) := by decide +kernel
theorem d_X10_turnOn_25 : decode mX10_turnOn.2.2.1 25 = .ok (.if_icmp .ge 14, 3) := by decide +kernel
theorem d_X10_turnOn_39 : decode mX10_turnOn.2.2.1 39 = .ok (.aload_n 0, 1) := by decide +kernel
theorem d_X10_turnOn_40 : decode mX10_turnOn.2.2.1 40 = .ok (.getfield 9, 3) := by decide +kernel
theorem d_X10_turnOn_43 : decode mX10_turnOn.2.2.1 43 = .ok (.iload_n 2, 1) := by decide +kernel
theorem d_X10_turnOn_44 : decode mX10_turnOn.2.2.1 44 = .ok (.aload_n 1, 1) := by decide +kernel
theorem d_X10_turnOn_45 : decode mX10_turnOn.2.2.1 45 = .ok (.getfield 33, 3) := by decide +kernel
theorem d_X10_turnOn_48 : decode mX10_turnOn.2.2.1 48 = .ok (.iload_n 2, 1) := by decide +kernel
theorem d_X10_turnOn_49 : decode mX10_turnOn.2.2.1 49 = .ok (.iaload, 1) := by decide +kernel
theorem d_X10_turnOn_50 : decode mX10_turnOn.2.2.1 50 = .ok (.iastore, 1) := by decide +kernel
theorem d_X10_turnOn_51 : decode mX10_turnOn.2.2.1 51 = .ok (.iinc 2 (-1), 3) := by decide +kernel
theorem d_X10_turnOn_54 : decode mX10_turnOn.2.2.1 54 = .ok (.goto (-45), 3) := by decide +kernel
theorem d_X10_turnOn_28 : decode mX10_turnOn.2.2.1 28 = .ok (.aload_n 0, 1) := by decide +kernel
theorem d_X10_turnOn_29 : decode mX10_turnOn.2.2.1 29 = .ok (.getfield 9, 3) := by decide +kernel
theorem d_X10_turnOn_32 : decode mX10_turnOn.2.2.1 32 = .ok (.iload_n 2, 1) := by decide +kernel
theorem d_X10_turnOn_33 : decode mX10_turnOn.2.2.1 33 = .ok (.dup2, 1) := by decide +kernel
theorem d_X10_turnOn_34 : decode mX10_turnOn.2.2.1 34 = .ok (.iaload, 1) := by decide +kernel
theorem d_X10_turnOn_35 : decode mX10_turnOn.2.2.1 35 = .ok (.iconst 1, 1) := by decide +kernel
theorem d_X10_turnOn_36 : decode mX10_turnOn.2.2.1 36 = .ok (.iadd, 1) := by decide +kernel
theorem d_X10_turnOn_37 : decode mX10_turnOn.2.2.1 37 = .ok (.iastore, 1) := by decide +kernel
theorem d_X10_turnOn_38 : decode mX10_turnOn.2.2.1 38 = .ok (.return_, 1) := by decide +kernel
theorem ok_X10_turnOn : e_m mX10_turnOn 1 := ⟨tblG_in (inT6 (List.mem_of_getElem? (i := 69) rfl)) rfl, plainFor_of_name (by decide), rfl, ini_10, by decide +kernel, by decide⟩
theorem d_X11_over_81 : decode mX11_over.2.2.1 81 = .ok (.iinc 3 1, 3) := by decide +kernel
theorem d_X11_over_84 : decode mX11_over.2.2.1 84 = .ok (.goto (-61), 3) := by decide +kernel
theorem d_X11_over_66 : decode mX11_over.2.2.1 66 = .ok (.iconst 0, 1) := by decide +kernel
theorem d_X10_compare_4 : decode mX10_compare.2.2.1 4 = .ok (.iload_n 1, 1) := by decide +kernel
theorem d_X10_compare_5 : decode mX10_compare.2.2.1 5 = .ok (.aload_n 0, 1) := by decide +kernel
theorem d_X10_compare_6 : decode mX10_compare.2.2.1 6 = .ok (.getfield 46, 3) := by decide +kernel
theorem d_X10_compare_9 : decode mX10_compare.2.2.1 9 = .ok (.if_icmp .le 22, 3) := by decide +kernel
theorem d_X10_compare_35 : decode mX10_compare.2.2.1 35 = .ok (.iload_n 1, 1) := by decide +kernel
theorem d_X10_compare_36 : decode mX10_compare.2.2.1 36 = .ok (.aload_n 0, 1) := by decide +kernel
theorem d_X10_compare_37 : decode mX10_compare.2.2.1 37 = .ok (.getfield 50, 3) := by decide +kernel
theorem d_X10_compare_40 : decode mX10_compare.2.2.1 40 = .ok (.if_icmp .ge 22, 3) := by decide +kernel
def mX11_run : MD := (11, yX11_run, cX11_run, 2, some .int)
theorem d_X11_run_0 : decode mX11_run.2.2.1 0 = .ok (.iload_n 1, 1) := by decide +kernel
theorem d_X11_run_1 : decode mX11_run.2.2.1 1 = .ok (.iconst (-1), 1) := by decide +kernel
theorem d_X11_run_2 : decode mX11_run.2.2.1 2 = .ok (.if_icmp .ge 6, 3) := by decide +kernel
theorem d_X11_run_8 : decode mX11_run.2.2.1 8 = .ok (.aload_n 0, 1) := by decide +kernel
theorem d_X11_run_9 : decode mX11_run.2.2.1 9 = .ok (.getfield 46, 3) := by decide +kernel
theorem d_X11_run_12 : decode mX11_run.2.2.1 12 = .ok (.aload_n 0, 1) := by decide +kernel
theorem d_X11_run_13 : decode mX11_run.2.2.1 13 = .ok (.getfield 30, 3) := by decide +kernel
theorem d_X11_run_16 : decode mX11_run.2.2.1 16 = .ok (.aload_n 0, 1) := by decide +kernel
theorem d_X11_run_17 : decode mX11_run.2.2.1 17 = .ok (.getfield 37, 3) := by decide +kernel
theorem d_X11_run_20 : decode mX11_run.2.2.1 20 = .ok (.iload_n 1, 1) := by decide +kernel
theorem d_X11_run_21 : decode mX11_run.2.2.1 21 = .ok (.invokevirtual 144, 3) := by decide +kernel
theorem d_X6_begin_91 : decode mX6_begin.2.2.1 91 = .ok (.iconst 1, 1) := by decide +kernel
theorem d_X6_begin_92 : decode mX6_begin.2.2.1 92 = .ok (.goto 4, 3) := by decide +kernel
theorem d_X1_begin_20 : decode mX1_begin.2.2.1 20 = .ok (.aload_n 0, 1) := by decide +kernel
theorem d_X1_begin_21 : decode mX1_begin.2.2.1 21 = .ok (.getfield 15, 3) := by decide +kernel
theorem d_X1_begin_24 : decode mX1_begin.2.2.1 24 = .ok (.iconst (-1), 1) := by decide +kernel
theorem d_X1_begin_25 : decode mX1_begin.2.2.1 25 = .ok (.invokestatic 45, 3) := by decide +kernel
theorem d_X1_begin_28 : decode mX1_begin.2.2.1 28 = .ok (.aload_n 0, 1) := by decide +kernel
theorem d_X1_begin_29 : decode mX1_begin.2.2.1 29 = .ok (.getfield 18, 3) := by decide +kernel
theorem d_X1_begin_32 : decode mX1_begin.2.2.1 32 = .ok (.iconst (-1), 1) := by decide +kernel
theorem d_X1_begin_33 : decode mX1_begin.2.2.1 33 = .ok (.invokestatic 45, 3) := by decide +kernel
theorem d_X1_begin_36 : decode mX1_begin.2.2.1 36 = .ok (.aload_n 0, 1) := by decide +kernel
theorem d_X1_begin_37 : decode mX1_begin.2.2.1 37 = .ok (.getfield 21, 3) := by decide +kernel
theorem d_X1_begin_40 : decode mX1_begin.2.2.1 40 = .ok (.iconst 0, 1) := by decide +kernel
theorem d_X1_begin_41 : decode mX1_begin.2.2.1 41 = .ok (.invokestatic 45, 3) := by decide +kernel
theorem d_X1_begin_44 : decode mX1_begin.2.2.1 44 = .ok (.aload_n 0, 1) := by decide +kernel
theorem d_X1_begin_45 : decode mX1_begin.2.2.1 45 = .ok (.getfield 24, 3) := by decide +kernel
theorem d_X1_begin_48 : decode mX1_begin.2.2.1 48 = .ok (.iconst 0, 1) := by decide +kernel
theorem d_X1_begin_49 : decode mX1_begin.2.2.1 49 = .ok (.invokestatic 45, 3) := by decide +kernel
theorem d_X1_begin_52 : decode mX1_begin.2.2.1 52 = .ok (.aload_n 0, 1) := by decide +kernel
theorem d_X1_begin_53 : decode mX1_begin.2.2.1 53 = .ok (.getfield 27, 3) := by decide +kernel
theorem d_X1_begin_56 : decode mX1_begin.2.2.1 56 = .ok (.iconst 0, 1) := by decide +kernel
theorem d_X1_begin_57 : decode mX1_begin.2.2.1 57 = .ok (.invokestatic 45, 3) := by decide +kernel
theorem d_X1_begin_60 : decode mX1_begin.2.2.1 60 = .ok (.aload_n 0, 1) := by decide +kernel
theorem d_X1_begin_61 : decode mX1_begin.2.2.1 61 = .ok (.getfield 33, 3) := by decide +kernel
theorem d_X1_begin_64 : decode mX1_begin.2.2.1 64 = .ok (.invokevirtual 51, 3) := by decide +kernel
def mX8_clear : MD := (8, yX8_clear, cX8_clear, 1, none)
theorem sel_X8_clear : Cond.instanceMethod mX8_clear.2.1 ∈ tblG ∧ Cond.selects mX8_clear.2.1.cls mX8_clear.2.1 mX8_clear.2.1 ∈ tblG := ⟨tblG_in (inT5 (List.mem_of_getElem? (i := 2) rfl)) rfl, tblG_in (inT5 (List.mem_of_getElem? (i := 3) rfl)) rfl⟩
theorem s_1_51 : e_siteV 1 51 mX8_clear 8 := ⟨tblG_in (inT5 (List.mem_of_getElem? (i := 1) rfl)) rfl, sel_X8_clear.1, sel_X8_clear.2, rfl⟩
theorem d_X8_clear_0 : decode mX8_clear.2.2.1 0 = .ok (.aload_n 0, 1) := by decide +kernel
theorem d_X8_clear_1 : decode mX8_clear.2.2.1 1 = .ok (.iconst 0, 1) := by decide +kernel
theorem d_X8_clear_2 : decode mX8_clear.2.2.1 2 = .ok (.putfield 43, 3) := by decide +kernel
