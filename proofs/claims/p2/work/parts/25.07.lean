theorem d_X11_lasts_28 : decode mX11_lasts.2.2.1 28 = .ok (.if_icmp .gt 14, 3) := by decide +kernel
theorem d_X11_lasts_31 : decode mX11_lasts.2.2.1 31 = .ok (.iload_n 3, 1) := by decide +kernel
theorem d_X11_lasts_32 : decode mX11_lasts.2.2.1 32 = .ok (.ifCond .lt 10, 3) := by decide +kernel
theorem d_X11_lasts_35 : decode mX11_lasts.2.2.1 35 = .ok (.iload_n 3, 1) := by decide +kernel
theorem d_X11_lasts_36 : decode mX11_lasts.2.2.1 36 = .ok (.ldc_w 311, 3) := by decide +kernel
theorem k_11_311 : Jvm.Cond.constant (e_cn 11) 311 (Int32.ofInt 100000) ∈ tblG := tblG_in (inT6 (List.mem_of_getElem? (i := 180) rfl)) rfl
theorem d_X11_lasts_39 : decode mX11_lasts.2.2.1 39 = .ok (.if_icmp .le 5, 3) := by decide +kernel
theorem d_X11_lasts_44 : decode mX11_lasts.2.2.1 44 = .ok (.iload_n 2, 1) := by decide +kernel
theorem d_X11_lasts_45 : decode mX11_lasts.2.2.1 45 = .ok (.i2l, 1) := by decide +kernel
theorem d_X11_lasts_46 : decode mX11_lasts.2.2.1 46 = .ok (.aload_n 0, 1) := by decide +kernel
theorem d_X11_lasts_47 : decode mX11_lasts.2.2.1 47 = .ok (.getfield 46, 3) := by decide +kernel
theorem d_X11_lasts_50 : decode mX11_lasts.2.2.1 50 = .ok (.getfield 155, 3) := by decide +kernel
theorem d_X11_lasts_53 : decode mX11_lasts.2.2.1 53 = .ok (.i2l, 1) := by decide +kernel
theorem d_X11_lasts_54 : decode mX11_lasts.2.2.1 54 = .ok (.lmul, 1) := by decide +kernel
theorem d_X11_lasts_55 : decode mX11_lasts.2.2.1 55 = .ok (.iload_n 3, 1) := by decide +kernel
theorem d_X11_lasts_56 : decode mX11_lasts.2.2.1 56 = .ok (.i2l, 1) := by decide +kernel
theorem d_X11_lasts_57 : decode mX11_lasts.2.2.1 57 = .ok (.aload_n 0, 1) := by decide +kernel
theorem d_X11_lasts_58 : decode mX11_lasts.2.2.1 58 = .ok (.getfield 30, 3) := by decide +kernel
theorem d_X11_lasts_61 : decode mX11_lasts.2.2.1 61 = .ok (.invokevirtual 312, 3) := by decide +kernel
def mX3_sleepOfAll : MD := (3, yX3_sleepOfAll, cX3_sleepOfAll, 3, some .int)
theorem sel_X3_sleepOfAll : Cond.instanceMethod mX3_sleepOfAll.2.1 ∈ tblG ∧ Cond.selects mX3_sleepOfAll.2.1.cls mX3_sleepOfAll.2.1 mX3_sleepOfAll.2.1 ∈ tblG := ⟨tblG_in (inT6 (List.mem_of_getElem? (i := 182) rfl)) rfl, tblG_in (inT6 (List.mem_of_getElem? (i := 183) rfl)) rfl⟩
theorem s_11_312 : e_siteV 11 312 mX3_sleepOfAll 3 := ⟨tblG_in (inT6 (List.mem_of_getElem? (i := 181) rfl)) rfl, sel_X3_sleepOfAll.1, sel_X3_sleepOfAll.2, rfl⟩
theorem d_X3_sleepOfAll_0 : decode mX3_sleepOfAll.2.2.1 0 = .ok (.iconst 0, 1) := by decide +kernel
theorem d_X3_sleepOfAll_1 : decode mX3_sleepOfAll.2.2.1 1 = .ok (.istore_n 1, 1) := by decide +kernel
theorem d_X3_sleepOfAll_2 : decode mX3_sleepOfAll.2.2.1 2 = .ok (.iconst 0, 1) := by decide +kernel
theorem d_X3_sleepOfAll_3 : decode mX3_sleepOfAll.2.2.1 3 = .ok (.istore_n 2, 1) := by decide +kernel
theorem d_X3_sleepOfAll_4 : decode mX3_sleepOfAll.2.2.1 4 = .ok (.iload_n 2, 1) := by decide +kernel
theorem d_X3_sleepOfAll_5 : decode mX3_sleepOfAll.2.2.1 5 = .ok (.aload_n 0, 1) := by decide +kernel
theorem d_X3_sleepOfAll_6 : decode mX3_sleepOfAll.2.2.1 6 = .ok (.getfield 11, 3) := by decide +kernel
theorem d_X3_sleepOfAll_9 : decode mX3_sleepOfAll.2.2.1 9 = .ok (.iconst 0, 1) := by decide +kernel
theorem d_X3_sleepOfAll_10 : decode mX3_sleepOfAll.2.2.1 10 = .ok (.iaload, 1) := by decide +kernel
theorem d_X3_sleepOfAll_11 : decode mX3_sleepOfAll.2.2.1 11 = .ok (.if_icmp .ge 22, 3) := by decide +kernel
theorem d_X3_sleepOfAll_33 : decode mX3_sleepOfAll.2.2.1 33 = .ok (.iload_n 1, 1) := by decide +kernel
theorem d_X3_sleepOfAll_34 : decode mX3_sleepOfAll.2.2.1 34 = .ok (.ireturn, 1) := by decide +kernel
theorem d_X3_sleepOfAll_14 : decode mX3_sleepOfAll.2.2.1 14 = .ok (.iload_n 1, 1) := by decide +kernel
theorem d_X3_sleepOfAll_15 : decode mX3_sleepOfAll.2.2.1 15 = .ok (.aload_n 0, 1) := by decide +kernel
theorem d_X3_sleepOfAll_16 : decode mX3_sleepOfAll.2.2.1 16 = .ok (.getfield 15, 3) := by decide +kernel
theorem d_X3_sleepOfAll_19 : decode mX3_sleepOfAll.2.2.1 19 = .ok (.iload_n 2, 1) := by decide +kernel
theorem d_X3_sleepOfAll_20 : decode mX3_sleepOfAll.2.2.1 20 = .ok (.iconst 4, 1) := by decide +kernel
theorem d_X3_sleepOfAll_21 : decode mX3_sleepOfAll.2.2.1 21 = .ok (.imul, 1) := by decide +kernel
theorem d_X3_sleepOfAll_22 : decode mX3_sleepOfAll.2.2.1 22 = .ok (.iconst 0, 1) := by decide +kernel
theorem d_X3_sleepOfAll_23 : decode mX3_sleepOfAll.2.2.1 23 = .ok (.iadd, 1) := by decide +kernel
theorem d_X3_sleepOfAll_24 : decode mX3_sleepOfAll.2.2.1 24 = .ok (.iaload, 1) := by decide +kernel
theorem d_X3_sleepOfAll_25 : decode mX3_sleepOfAll.2.2.1 25 = .ok (.iadd, 1) := by decide +kernel
theorem d_X3_sleepOfAll_26 : decode mX3_sleepOfAll.2.2.1 26 = .ok (.istore_n 1, 1) := by decide +kernel
theorem d_X3_sleepOfAll_27 : decode mX3_sleepOfAll.2.2.1 27 = .ok (.iinc 2 1, 3) := by decide +kernel
theorem d_X3_sleepOfAll_30 : decode mX3_sleepOfAll.2.2.1 30 = .ok (.goto (-26), 3) := by decide +kernel
theorem ok_X3_sleepOfAll : e_m mX3_sleepOfAll 0 := ⟨tblG_in (inT6 (List.mem_of_getElem? (i := 184) rfl)) rfl, plainFor_of_name (by decide), rfl, ini_3, by decide +kernel, by decide⟩
theorem d_X11_lasts_64 : decode mX11_lasts.2.2.1 64 = .ok (.i2l, 1) := by decide +kernel
theorem d_X11_lasts_65 : decode mX11_lasts.2.2.1 65 = .ok (.lmul, 1) := by decide +kernel
theorem d_X11_lasts_66 : decode mX11_lasts.2.2.1 66 = .ok (.ladd, 1) := by decide +kernel
theorem d_X11_lasts_67 : decode mX11_lasts.2.2.1 67 = .ok (.lstore 4, 2) := by decide +kernel
theorem d_X11_lasts_69 : decode mX11_lasts.2.2.1 69 = .ok (.lload 4, 2) := by decide +kernel
theorem d_X11_lasts_71 : decode mX11_lasts.2.2.1 71 = .ok (.lconst 0, 1) := by decide +kernel
theorem d_X11_lasts_72 : decode mX11_lasts.2.2.1 72 = .ok (.lcmp, 1) := by decide +kernel
theorem d_X11_lasts_73 : decode mX11_lasts.2.2.1 73 = .ok (.ifCond .gt 7, 3) := by decide +kernel
theorem d_X11_lasts_80 : decode mX11_lasts.2.2.1 80 = .ok (.iload_n 1, 1) := by decide +kernel
theorem d_X11_lasts_81 : decode mX11_lasts.2.2.1 81 = .ok (.i2l, 1) := by decide +kernel
theorem d_X11_lasts_82 : decode mX11_lasts.2.2.1 82 = .ok (.lload 4, 2) := by decide +kernel
theorem d_X11_lasts_84 : decode mX11_lasts.2.2.1 84 = .ok (.ldiv, 1) := by decide +kernel
theorem d_X11_lasts_85 : decode mX11_lasts.2.2.1 85 = .ok (.l2i, 1) := by decide +kernel
theorem d_X11_lasts_86 : decode mX11_lasts.2.2.1 86 = .ok (.ireturn, 1) := by decide +kernel
theorem d_X11_lasts_76 : decode mX11_lasts.2.2.1 76 = .ok (.iconst (-1), 1) := by decide +kernel
theorem d_X11_lasts_77 : decode mX11_lasts.2.2.1 77 = .ok (.goto 9, 3) := by decide +kernel
def mX11_measure : MD := (11, yX11_measure, cX11_measure, 2, some .int)
theorem d_X11_measure_0 : decode mX11_measure.2.2.1 0 = .ok (.iload_n 1, 1) := by decide +kernel
theorem d_X11_measure_1 : decode mX11_measure.2.2.1 1 = .ok (.ifCond .lt 22, 3) := by decide +kernel
theorem d_X11_measure_23 : decode mX11_measure.2.2.1 23 = .ok (.iconst (-1), 1) := by decide +kernel
theorem d_X11_measure_24 : decode mX11_measure.2.2.1 24 = .ok (.ireturn, 1) := by decide +kernel
theorem d_X11_measure_4 : decode mX11_measure.2.2.1 4 = .ok (.iload_n 1, 1) := by decide +kernel
theorem d_X11_measure_5 : decode mX11_measure.2.2.1 5 = .ok (.ldc_w 271, 3) := by decide +kernel
theorem k_11_271 : Jvm.Cond.constant (e_cn 11) 271 (Int32.ofInt 10000000) ∈ tblG := tblG_in (inT6 (List.mem_of_getElem? (i := 86) rfl)) rfl
theorem d_X11_measure_8 : decode mX11_measure.2.2.1 8 = .ok (.if_icmp .gt 15, 3) := by decide +kernel
theorem d_X11_measure_11 : decode mX11_measure.2.2.1 11 = .ok (.aload_n 0, 1) := by decide +kernel
theorem d_X11_measure_12 : decode mX11_measure.2.2.1 12 = .ok (.getfield 70, 3) := by decide +kernel
theorem d_X11_measure_15 : decode mX11_measure.2.2.1 15 = .ok (.getfield 133, 3) := by decide +kernel
theorem d_X11_measure_18 : decode mX11_measure.2.2.1 18 = .ok (.bipush 12, 2) := by decide +kernel
theorem d_X11_measure_20 : decode mX11_measure.2.2.1 20 = .ok (.if_icmp .lt 5, 3) := by decide +kernel
theorem d_X11_measure_25 : decode mX11_measure.2.2.1 25 = .ok (.aload_n 0, 1) := by decide +kernel
theorem d_X11_measure_26 : decode mX11_measure.2.2.1 26 = .ok (.getfield 50, 3) := by decide +kernel
theorem d_X11_measure_29 : decode mX11_measure.2.2.1 29 = .ok (.aload_n 0, 1) := by decide +kernel
theorem d_X11_measure_30 : decode mX11_measure.2.2.1 30 = .ok (.getfield 30, 3) := by decide +kernel
theorem d_X11_measure_33 : decode mX11_measure.2.2.1 33 = .ok (.aload_n 0, 1) := by decide +kernel
theorem d_X11_measure_34 : decode mX11_measure.2.2.1 34 = .ok (.getfield 37, 3) := by decide +kernel
theorem d_X11_measure_37 : decode mX11_measure.2.2.1 37 = .ok (.iconst (-1), 1) := by decide +kernel
theorem d_X11_measure_38 : decode mX11_measure.2.2.1 38 = .ok (.invokevirtual 144, 3) := by decide +kernel
def mX6_go : MD := (6, yX6_go, cX6_go, 8, none)
theorem sel_X6_go : Cond.instanceMethod mX6_go.2.1 ∈ tblG ∧ Cond.selects mX6_go.2.1.cls mX6_go.2.1 mX6_go.2.1 ∈ tblG := ⟨tblG_in (inT4 (List.mem_of_getElem? (i := 227) rfl)) rfl, tblG_in (inT4 (List.mem_of_getElem? (i := 228) rfl)) rfl⟩
theorem s_11_144 : e_siteV 11 144 mX6_go 6 := ⟨tblG_in (inT4 (List.mem_of_getElem? (i := 226) rfl)) rfl, sel_X6_go.1, sel_X6_go.2, rfl⟩
theorem d_X6_go_0 : decode mX6_go.2.2.1 0 = .ok (.aload_n 0, 1) := by decide +kernel
theorem d_X6_go_1 : decode mX6_go.2.2.1 1 = .ok (.aload_n 1, 1) := by decide +kernel
theorem d_X6_go_2 : decode mX6_go.2.2.1 2 = .ok (.aload_n 2, 1) := by decide +kernel
theorem d_X6_go_3 : decode mX6_go.2.2.1 3 = .ok (.iload_n 3, 1) := by decide +kernel
theorem d_X6_go_4 : decode mX6_go.2.2.1 4 = .ok (.invokevirtual 42, 3) := by decide +kernel
def mX6_begin : MD := (6, yX6_begin, cX6_begin, 4, none)
theorem sel_X6_begin : Cond.instanceMethod mX6_begin.2.1 ∈ tblG ∧ Cond.selects mX6_begin.2.1.cls mX6_begin.2.1 mX6_begin.2.1 ∈ tblG := ⟨tblG_in (inT4 (List.mem_of_getElem? (i := 232) rfl)) rfl, tblG_in (inP3 (q := (mX6_begin.2.1, 18)) (List.mem_of_getElem? (i := 11) rfl)) rfl⟩
theorem s_6_42 : e_siteV 6 42 mX6_begin 6 := ⟨tblG_in (inT4 (List.mem_of_getElem? (i := 230) rfl)) rfl, sel_X6_begin.1, sel_X6_begin.2, rfl⟩
theorem d_X6_begin_0 : decode mX6_begin.2.2.1 0 = .ok (.aload_n 0, 1) := by decide +kernel
theorem d_X6_begin_1 : decode mX6_begin.2.2.1 1 = .ok (.aload_n 1, 1) := by decide +kernel
theorem d_X6_begin_2 : decode mX6_begin.2.2.1 2 = .ok (.putfield 46, 3) := by decide +kernel
theorem f_6_46 : e_fld 6 46 6 1 18 2 false := ⟨RX6, TX6, 1, rfl, rfl, by decide, rfl, rfl, rfl, iX6, tblG_in (inT2 (List.mem_of_getElem? (i := 101) rfl)) rfl, tyX6_ok, nmX6⟩
theorem d_X6_begin_5 : decode mX6_begin.2.2.1 5 = .ok (.aload_n 2, 1) := by decide +kernel
theorem d_X6_begin_6 : decode mX6_begin.2.2.1 6 = .ok (.iconst 0, 1) := by decide +kernel
theorem d_X6_begin_7 : decode mX6_begin.2.2.1 7 = .ok (.aload_n 0, 1) := by decide +kernel
theorem d_X6_begin_8 : decode mX6_begin.2.2.1 8 = .ok (.getfield 9, 3) := by decide +kernel
theorem d_X6_begin_11 : decode mX6_begin.2.2.1 11 = .ok (.iconst 0, 1) := by decide +kernel
theorem d_X6_begin_12 : decode mX6_begin.2.2.1 12 = .ok (.iconst 3, 1) := by decide +kernel
theorem d_X6_begin_13 : decode mX6_begin.2.2.1 13 = .ok (.invokestatic 85, 3) := by decide +kernel
theorem ac_6_85 : Cond.methodLink (e_cn 6) 85 arraycopyName ∈ tblG := tblG_in (inT4 (List.mem_of_getElem? (i := 234) rfl)) rfl
theorem d_X6_begin_16 : decode mX6_begin.2.2.1 16 = .ok (.aload_n 0, 1) := by decide +kernel
theorem d_X6_begin_17 : decode mX6_begin.2.2.1 17 = .ok (.getfield 15, 3) := by decide +kernel
theorem d_X6_begin_20 : decode mX6_begin.2.2.1 20 = .ok (.iconst 0, 1) := by decide +kernel
theorem d_X6_begin_21 : decode mX6_begin.2.2.1 21 = .ok (.invokestatic 91, 3) := by decide +kernel
theorem s_6_91 : e_siteS 6 91 mJ7_fill_53178 := ⟨tblG_in (inT4 (List.mem_of_getElem? (i := 235) rfl)) rfl, tblG_in (inT3 (List.mem_of_getElem? (i := 42) rfl)) rfl⟩
theorem d_X6_begin_24 : decode mX6_begin.2.2.1 24 = .ok (.aload_n 0, 1) := by decide +kernel
theorem d_X6_begin_25 : decode mX6_begin.2.2.1 25 = .ok (.getfield 21, 3) := by decide +kernel
theorem d_X6_begin_28 : decode mX6_begin.2.2.1 28 = .ok (.iconst (-1), 1) := by decide +kernel
theorem d_X6_begin_29 : decode mX6_begin.2.2.1 29 = .ok (.invokestatic 91, 3) := by decide +kernel
theorem d_X6_begin_32 : decode mX6_begin.2.2.1 32 = .ok (.aload_n 0, 1) := by decide +kernel
theorem d_X6_begin_33 : decode mX6_begin.2.2.1 33 = .ok (.getfield 24, 3) := by decide +kernel
theorem d_X6_begin_36 : decode mX6_begin.2.2.1 36 = .ok (.iconst 0, 1) := by decide +kernel
theorem d_X6_begin_37 : decode mX6_begin.2.2.1 37 = .ok (.invokestatic 91, 3) := by decide +kernel
theorem d_X6_begin_40 : decode mX6_begin.2.2.1 40 = .ok (.aload_n 0, 1) := by decide +kernel
theorem d_X6_begin_41 : decode mX6_begin.2.2.1 41 = .ok (.getfield 27, 3) := by decide +kernel
theorem d_X6_begin_44 : decode mX6_begin.2.2.1 44 = .ok (.iconst 0, 1) := by decide +kernel
theorem d_X6_begin_45 : decode mX6_begin.2.2.1 45 = .ok (.invokestatic 91, 3) := by decide +kernel
theorem d_X6_begin_48 : decode mX6_begin.2.2.1 48 = .ok (.aload_n 0, 1) := by decide +kernel
theorem d_X6_begin_49 : decode mX6_begin.2.2.1 49 = .ok (.getfield 30, 3) := by decide +kernel
theorem d_X6_begin_52 : decode mX6_begin.2.2.1 52 = .ok (.iconst 0, 1) := by decide +kernel
theorem d_X6_begin_53 : decode mX6_begin.2.2.1 53 = .ok (.invokestatic 91, 3) := by decide +kernel
theorem d_X6_begin_56 : decode mX6_begin.2.2.1 56 = .ok (.aload_n 0, 1) := by decide +kernel
theorem d_X6_begin_57 : decode mX6_begin.2.2.1 57 = .ok (.iconst 0, 1) := by decide +kernel
theorem d_X6_begin_58 : decode mX6_begin.2.2.1 58 = .ok (.putfield 68, 3) := by decide +kernel
theorem f_6_68 : e_fld 6 68 6 9 18 0 false := ⟨RX6, TX6, 9, rfl, rfl, by decide, rfl, rfl, rfl, iX6, tblG_in (inT2 (List.mem_of_getElem? (i := 110) rfl)) rfl, tyX6_ok, nmX6⟩
theorem d_X6_begin_61 : decode mX6_begin.2.2.1 61 = .ok (.aload_n 0, 1) := by decide +kernel
theorem d_X6_begin_62 : decode mX6_begin.2.2.1 62 = .ok (.iconst 0, 1) := by decide +kernel
theorem d_X6_begin_63 : decode mX6_begin.2.2.1 63 = .ok (.putfield 97, 3) := by decide +kernel
theorem f_6_97 : e_fld 6 97 6 11 18 0 false := ⟨RX6, TX6, 11, rfl, rfl, by decide, rfl, rfl, rfl, iX6, tblG_in (inT2 (List.mem_of_getElem? (i := 115) rfl)) rfl, tyX6_ok, nmX6⟩
theorem d_X6_begin_66 : decode mX6_begin.2.2.1 66 = .ok (.aload_n 0, 1) := by decide +kernel
theorem d_X6_begin_67 : decode mX6_begin.2.2.1 67 = .ok (.iconst 0, 1) := by decide +kernel
theorem d_X6_begin_68 : decode mX6_begin.2.2.1 68 = .ok (.putfield 100, 3) := by decide +kernel
theorem f_6_100 : e_fld 6 100 6 12 18 0 false := ⟨RX6, TX6, 12, rfl, rfl, by decide, rfl, rfl, rfl, iX6, tblG_in (inT2 (List.mem_of_getElem? (i := 117) rfl)) rfl, tyX6_ok, nmX6⟩
theorem d_X6_begin_71 : decode mX6_begin.2.2.1 71 = .ok (.aload_n 0, 1) := by decide +kernel
theorem d_X6_begin_72 : decode mX6_begin.2.2.1 72 = .ok (.iconst 0, 1) := by decide +kernel
theorem d_X6_begin_73 : decode mX6_begin.2.2.1 73 = .ok (.putfield 103, 3) := by decide +kernel
theorem f_6_103 : e_fld 6 103 6 13 18 0 false := ⟨RX6, TX6, 13, rfl, rfl, by decide, rfl, rfl, rfl, iX6, tblG_in (inT2 (List.mem_of_getElem? (i := 119) rfl)) rfl, tyX6_ok, nmX6⟩
theorem d_X6_begin_76 : decode mX6_begin.2.2.1 76 = .ok (.aload_n 0, 1) := by decide +kernel
theorem d_X6_begin_77 : decode mX6_begin.2.2.1 77 = .ok (.iconst 0, 1) := by decide +kernel
theorem d_X6_begin_78 : decode mX6_begin.2.2.1 78 = .ok (.putfield 62, 3) := by decide +kernel
theorem f_6_62 : e_fld 6 62 6 14 18 0 false := ⟨RX6, TX6, 14, rfl, rfl, by decide, rfl, rfl, rfl, iX6, tblG_in (inT2 (List.mem_of_getElem? (i := 121) rfl)) rfl, tyX6_ok, nmX6⟩
theorem d_X6_begin_81 : decode mX6_begin.2.2.1 81 = .ok (.aload_n 0, 1) := by decide +kernel
theorem d_X6_begin_82 : decode mX6_begin.2.2.1 82 = .ok (.iconst (-1), 1) := by decide +kernel
theorem d_X6_begin_83 : decode mX6_begin.2.2.1 83 = .ok (.putfield 79, 3) := by decide +kernel
theorem f_6_79 : e_fld 6 79 6 15 18 0 false := ⟨RX6, TX6, 15, rfl, rfl, by decide, rfl, rfl, rfl, iX6, tblG_in (inT2 (List.mem_of_getElem? (i := 123) rfl)) rfl, tyX6_ok, nmX6⟩
theorem d_X6_begin_86 : decode mX6_begin.2.2.1 86 = .ok (.aload_n 0, 1) := by decide +kernel
theorem d_X6_begin_87 : decode mX6_begin.2.2.1 87 = .ok (.iload_n 3, 1) := by decide +kernel
theorem d_X6_begin_88 : decode mX6_begin.2.2.1 88 = .ok (.ifCond .lt 7, 3) := by decide +kernel
theorem d_X6_begin_95 : decode mX6_begin.2.2.1 95 = .ok (.iconst 0, 1) := by decide +kernel
theorem d_X6_begin_96 : decode mX6_begin.2.2.1 96 = .ok (.putfield 106, 3) := by decide +kernel
theorem f_6_106 : e_fld 6 106 6 16 18 3 false := ⟨RX6, TX6, 16, rfl, rfl, by decide, rfl, rfl, rfl, iX6, tblG_in (inT2 (List.mem_of_getElem? (i := 125) rfl)) rfl, tyX6_ok, nmX6⟩
theorem d_X6_begin_99 : decode mX6_begin.2.2.1 99 = .ok (.aload_n 0, 1) := by decide +kernel
theorem d_X6_begin_100 : decode mX6_begin.2.2.1 100 = .ok (.iload_n 3, 1) := by decide +kernel
theorem d_X6_begin_101 : decode mX6_begin.2.2.1 101 = .ok (.putfield 110, 3) := by decide +kernel
theorem f_6_110 : e_fld 6 110 6 17 18 0 false := ⟨RX6, TX6, 17, rfl, rfl, by decide, rfl, rfl, rfl, iX6, tblG_in (inT2 (List.mem_of_getElem? (i := 126) rfl)) rfl, tyX6_ok, nmX6⟩
theorem d_X6_begin_104 : decode mX6_begin.2.2.1 104 = .ok (.aload_n 0, 1) := by decide +kernel
theorem d_X6_begin_105 : decode mX6_begin.2.2.1 105 = .ok (.getfield 38, 3) := by decide +kernel
theorem d_X6_begin_108 : decode mX6_begin.2.2.1 108 = .ok (.aload_n 1, 1) := by decide +kernel
theorem d_X6_begin_109 : decode mX6_begin.2.2.1 109 = .ok (.invokevirtual 113, 3) := by decide +kernel
def mX1_begin : MD := (1, yX1_begin, cX1_begin, 2, none)
theorem sel_X1_begin : Cond.instanceMethod mX1_begin.2.1 ∈ tblG ∧ Cond.selects mX1_begin.2.1.cls mX1_begin.2.1 mX1_begin.2.1 ∈ tblG := ⟨tblG_in (inT4 (List.mem_of_getElem? (i := 237) rfl)) rfl, tblG_in (inT4 (List.mem_of_getElem? (i := 238) rfl)) rfl⟩
theorem s_6_113 : e_siteV 6 113 mX1_begin 1 := ⟨tblG_in (inT4 (List.mem_of_getElem? (i := 236) rfl)) rfl, sel_X1_begin.1, sel_X1_begin.2, rfl⟩
theorem d_X1_begin_0 : decode mX1_begin.2.2.1 0 = .ok (.aload_n 0, 1) := by decide +kernel
theorem d_X1_begin_1 : decode mX1_begin.2.2.1 1 = .ok (.aload_n 1, 1) := by decide +kernel
theorem d_X1_begin_2 : decode mX1_begin.2.2.1 2 = .ok (.putfield 41, 3) := by decide +kernel
theorem d_X1_begin_5 : decode mX1_begin.2.2.1 5 = .ok (.aload_n 0, 1) := by decide +kernel
theorem d_X1_begin_6 : decode mX1_begin.2.2.1 6 = .ok (.getfield 9, 3) := by decide +kernel
theorem d_X1_begin_9 : decode mX1_begin.2.2.1 9 = .ok (.iconst 0, 1) := by decide +kernel
theorem d_X1_begin_10 : decode mX1_begin.2.2.1 10 = .ok (.invokestatic 45, 3) := by decide +kernel
theorem s_1_45 : e_siteS 1 45 mJ7_fill_53178 := ⟨tblG_in (inT5 (List.mem_of_getElem? (i := 0) rfl)) rfl, tblG_in (inT3 (List.mem_of_getElem? (i := 42) rfl)) rfl⟩
theorem d_X1_begin_13 : decode mX1_begin.2.2.1 13 = .ok (.aload_n 0, 1) := by decide +kernel
theorem d_X1_begin_14 : decode mX1_begin.2.2.1 14 = .ok (.getfield 37, 3) := by decide +kernel
theorem d_X1_begin_17 : decode mX1_begin.2.2.1 17 = .ok (.ifCond .eq 50, 3) := by decide +kernel
theorem d_X1_begin_67 : decode mX1_begin.2.2.1 67 = .ok (.return_, 1) := by decide +kernel
theorem ok_X1_begin : e_m mX1_begin 1 := ⟨tblG_in (inT4 (List.mem_of_getElem? (i := 239) rfl)) rfl, plainFor_of_name (by decide), rfl, ini_1, by decide +kernel, by decide⟩
theorem d_X6_begin_112 : decode mX6_begin.2.2.1 112 = .ok (.return_, 1) := by decide +kernel
theorem ok_X6_begin : e_m mX6_begin 3 := ⟨tblG_in (inT4 (List.mem_of_getElem? (i := 233) rfl)) rfl, plainFor_of_name (by decide), rfl, ini_6, by decide +kernel, by decide⟩
theorem d_X6_go_7 : decode mX6_go.2.2.1 7 = .ok (.iconst 0, 1) := by decide +kernel
theorem d_X6_go_8 : decode mX6_go.2.2.1 8 = .ok (.istore 4, 2) := by decide +kernel
theorem d_X6_go_10 : decode mX6_go.2.2.1 10 = .ok (.iconst 0, 1) := by decide +kernel
theorem d_X6_go_11 : decode mX6_go.2.2.1 11 = .ok (.istore 5, 2) := by decide +kernel
theorem d_X6_go_13 : decode mX6_go.2.2.1 13 = .ok (.iload 5, 2) := by decide +kernel
theorem d_X6_go_15 : decode mX6_go.2.2.1 15 = .ok (.sipush 2000, 3) := by decide +kernel
theorem d_X6_go_18 : decode mX6_go.2.2.1 18 = .ok (.if_icmp .gt 85, 3) := by decide +kernel
theorem d_X6_go_21 : decode mX6_go.2.2.1 21 = .ok (.iload 4, 2) := by decide +kernel
theorem d_X6_go_23 : decode mX6_go.2.2.1 23 = .ok (.aload_n 0, 1) := by decide +kernel
theorem d_X6_go_24 : decode mX6_go.2.2.1 24 = .ok (.getfield 46, 3) := by decide +kernel
theorem d_X6_go_27 : decode mX6_go.2.2.1 27 = .ok (.getfield 50, 3) := by decide +kernel
theorem f_6_50 : e_fld 6 50 3 11 12 2 true := ⟨RX3, TX3, 11, rfl, rfl, by decide, rfl, rfl, rfl, iX3, tblG_in (inT1 (List.mem_of_getElem? (i := 205) rfl)) rfl, tyX3_ok, nmX3⟩
theorem d_X6_go_30 : decode mX6_go.2.2.1 30 = .ok (.getfield 56, 3) := by decide +kernel
theorem f_6_56 : e_fld 6 56 4 0 13 0 false := ⟨RX4, TX4, 0, rfl, rfl, by decide, rfl, rfl, rfl, iX4, tblG_in (inT1 (List.mem_of_getElem? (i := 105) rfl)) rfl, tyX4_ok, nmX4⟩
theorem d_X6_go_33 : decode mX6_go.2.2.1 33 = .ok (.if_icmp .ge 70, 3) := by decide +kernel
theorem d_X6_go_36 : decode mX6_go.2.2.1 36 = .ok (.aload_n 0, 1) := by decide +kernel
theorem d_X6_go_37 : decode mX6_go.2.2.1 37 = .ok (.getfield 62, 3) := by decide +kernel
theorem d_X6_go_40 : decode mX6_go.2.2.1 40 = .ok (.ifCond .ne 63, 3) := by decide +kernel
theorem d_X6_go_43 : decode mX6_go.2.2.1 43 = .ok (.aload_n 0, 1) := by decide +kernel
theorem d_X6_go_44 : decode mX6_go.2.2.1 44 = .ok (.getfield 38, 3) := by decide +kernel
theorem d_X6_go_47 : decode mX6_go.2.2.1 47 = .ok (.invokevirtual 65, 3) := by decide +kernel
def mX1_makeRoom : MD := (1, yX1_makeRoom, cX1_makeRoom, 1, none)
theorem sel_X1_makeRoom : Cond.instanceMethod mX1_makeRoom.2.1 ∈ tblG ∧ Cond.selects mX1_makeRoom.2.1.cls mX1_makeRoom.2.1 mX1_makeRoom.2.1 ∈ tblG := ⟨tblG_in (inT5 (List.mem_of_getElem? (i := 7) rfl)) rfl, tblG_in (inT5 (List.mem_of_getElem? (i := 8) rfl)) rfl⟩
theorem s_6_65 : e_siteV 6 65 mX1_makeRoom 1 := ⟨tblG_in (inT5 (List.mem_of_getElem? (i := 6) rfl)) rfl, sel_X1_makeRoom.1, sel_X1_makeRoom.2, rfl⟩
theorem d_X1_makeRoom_0 : decode mX1_makeRoom.2.2.1 0 = .ok (.aload_n 0, 1) := by decide +kernel
theorem d_X1_makeRoom_1 : decode mX1_makeRoom.2.2.1 1 = .ok (.getfield 37, 3) := by decide +kernel
theorem d_X1_makeRoom_4 : decode mX1_makeRoom.2.2.1 4 = .ok (.ifCond .eq 10, 3) := by decide +kernel
theorem d_X1_makeRoom_14 : decode mX1_makeRoom.2.2.1 14 = .ok (.return_, 1) := by decide +kernel
theorem ok_X1_makeRoom : e_m mX1_makeRoom 0 := ⟨tblG_in (inT5 (List.mem_of_getElem? (i := 9) rfl)) rfl, plainFor_of_name (by decide), rfl, ini_1, by decide +kernel, by decide⟩
theorem d_X6_go_50 : decode mX6_go.2.2.1 50 = .ok (.aload_n 0, 1) := by decide +kernel
theorem d_X6_go_51 : decode mX6_go.2.2.1 51 = .ok (.getfield 68, 3) := by decide +kernel
theorem d_X6_go_54 : decode mX6_go.2.2.1 54 = .ok (.istore 6, 2) := by decide +kernel
theorem d_X6_go_56 : decode mX6_go.2.2.1 56 = .ok (.aload_n 0, 1) := by decide +kernel
theorem d_X6_go_57 : decode mX6_go.2.2.1 57 = .ok (.iload 4, 2) := by decide +kernel
theorem d_X6_go_59 : decode mX6_go.2.2.1 59 = .ok (.invokevirtual 71, 3) := by decide +kernel
def mX6_step : MD := (6, yX6_step, cX6_step, 4, some .int)
theorem sel_X6_step : Cond.instanceMethod mX6_step.2.1 ∈ tblG ∧ Cond.selects mX6_step.2.1.cls mX6_step.2.1 mX6_step.2.1 ∈ tblG := ⟨tblG_in (inT5 (List.mem_of_getElem? (i := 36) rfl)) rfl, tblG_in (inP3 (q := (mX6_step.2.1, 18)) (List.mem_of_getElem? (i := 12) rfl)) rfl⟩
theorem s_6_71 : e_siteV 6 71 mX6_step 6 := ⟨tblG_in (inT5 (List.mem_of_getElem? (i := 34) rfl)) rfl, sel_X6_step.1, sel_X6_step.2, rfl⟩
theorem d_X6_step_0 : decode mX6_step.2.2.1 0 = .ok (.aload_n 0, 1) := by decide +kernel
theorem d_X6_step_1 : decode mX6_step.2.2.1 1 = .ok (.iconst 1, 1) := by decide +kernel
theorem d_X6_step_2 : decode mX6_step.2.2.1 2 = .ok (.iconst (-1), 1) := by decide +kernel
theorem d_X6_step_3 : decode mX6_step.2.2.1 3 = .ok (.iconst 0, 1) := by decide +kernel
theorem d_X6_step_4 : decode mX6_step.2.2.1 4 = .ok (.invokevirtual 145, 3) := by decide +kernel
def mX6_pass : MD := (6, yX6_pass, cX6_pass, 6, some .int)
