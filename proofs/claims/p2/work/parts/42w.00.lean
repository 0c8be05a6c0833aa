theorem d_X11_byTurns_13 : decode mX11_byTurns.2.2.1 13 = .ok (.aload_n 0, 1) := by decide +kernel
theorem d_X11_byTurns_14 : decode mX11_byTurns.2.2.1 14 = .ok (.iload_n 3, 1) := by decide +kernel
theorem d_X11_byTurns_15 : decode mX11_byTurns.2.2.1 15 = .ok (.invokevirtual 191, 3) := by decide +kernel
theorem d_X11_byTurns_18 : decode mX11_byTurns.2.2.1 18 = .ok (.ifCond .ne 7, 3) := by decide +kernel
theorem d_X11_byTurns_25 : decode mX11_byTurns.2.2.1 25 = .ok (.aload_n 0, 1) := by decide +kernel
theorem d_X11_byTurns_26 : decode mX11_byTurns.2.2.1 26 = .ok (.getfield 46, 3) := by decide +kernel
theorem d_X11_byTurns_29 : decode mX11_byTurns.2.2.1 29 = .ok (.getfield 178, 3) := by decide +kernel
theorem d_X11_byTurns_32 : decode mX11_byTurns.2.2.1 32 = .ok (.getfield 201, 3) := by decide +kernel
theorem d_X11_byTurns_35 : decode mX11_byTurns.2.2.1 35 = .ok (.getfield 226, 3) := by decide +kernel
theorem d_X11_byTurns_38 : decode mX11_byTurns.2.2.1 38 = .ok (.iload 5, 2) := by decide +kernel
theorem d_X11_byTurns_40 : decode mX11_byTurns.2.2.1 40 = .ok (.laload, 1) := by decide +kernel
theorem d_X11_byTurns_41 : decode mX11_byTurns.2.2.1 41 = .ok (.lstore 6, 2) := by decide +kernel
theorem d_X11_byTurns_43 : decode mX11_byTurns.2.2.1 43 = .ok (.lload 6, 2) := by decide +kernel
theorem d_X11_byTurns_45 : decode mX11_byTurns.2.2.1 45 = .ok (.iload_n 3, 1) := by decide +kernel
theorem d_X11_byTurns_46 : decode mX11_byTurns.2.2.1 46 = .ok (.lshr, 1) := by decide +kernel
theorem d_X11_byTurns_47 : decode mX11_byTurns.2.2.1 47 = .ok (.lconst 1, 1) := by decide +kernel
theorem d_X11_byTurns_48 : decode mX11_byTurns.2.2.1 48 = .ok (.land, 1) := by decide +kernel
theorem d_X11_byTurns_49 : decode mX11_byTurns.2.2.1 49 = .ok (.lconst 0, 1) := by decide +kernel
theorem d_X11_byTurns_50 : decode mX11_byTurns.2.2.1 50 = .ok (.lcmp, 1) := by decide +kernel
theorem d_X11_byTurns_51 : decode mX11_byTurns.2.2.1 51 = .ok (.ifCond .eq 13, 3) := by decide +kernel
theorem d_X11_byTurns_64 : decode mX11_byTurns.2.2.1 64 = .ok (.ldc2_w 230, 3) := by decide +kernel
theorem d_X11_byTurns_67 : decode mX11_byTurns.2.2.1 67 = .ok (.lreturn, 1) := by decide +kernel
theorem d_X11_byTurns_54 : decode mX11_byTurns.2.2.1 54 = .ok (.lload 6, 2) := by decide +kernel
theorem d_X11_byTurns_56 : decode mX11_byTurns.2.2.1 56 = .ok (.invokestatic 232, 3) := by decide +kernel
theorem s_11_232 : e_siteS 11 232 mJ13_bitCount_95d88 := ⟨tblG_in (inT6 (List.mem_of_getElem? (i := 0) rfl)) rfl, tblG_in (inT5 (List.mem_of_getElem? (i := 206) rfl)) rfl⟩
theorem d_X11_byTurns_59 : decode mX11_byTurns.2.2.1 59 = .ok (.bipush 8, 2) := by decide +kernel
theorem d_X11_byTurns_61 : decode mX11_byTurns.2.2.1 61 = .ok (.if_icmp .le 7, 3) := by decide +kernel
theorem d_X11_byTurns_68 : decode mX11_byTurns.2.2.1 68 = .ok (.aload_n 0, 1) := by decide +kernel
theorem d_X11_byTurns_69 : decode mX11_byTurns.2.2.1 69 = .ok (.getfield 56, 3) := by decide +kernel
theorem d_X11_byTurns_72 : decode mX11_byTurns.2.2.1 72 = .ok (.aload_n 0, 1) := by decide +kernel
theorem d_X11_byTurns_73 : decode mX11_byTurns.2.2.1 73 = .ok (.getfield 30, 3) := by decide +kernel
theorem d_X11_byTurns_76 : decode mX11_byTurns.2.2.1 76 = .ok (.aload_n 0, 1) := by decide +kernel
theorem d_X11_byTurns_77 : decode mX11_byTurns.2.2.1 77 = .ok (.getfield 46, 3) := by decide +kernel
theorem d_X11_byTurns_80 : decode mX11_byTurns.2.2.1 80 = .ok (.getfield 178, 3) := by decide +kernel
theorem d_X11_byTurns_83 : decode mX11_byTurns.2.2.1 83 = .ok (.getfield 201, 3) := by decide +kernel
theorem d_X11_byTurns_86 : decode mX11_byTurns.2.2.1 86 = .ok (.iload 5, 2) := by decide +kernel
theorem d_X11_byTurns_88 : decode mX11_byTurns.2.2.1 88 = .ok (.invokevirtual 238, 3) := by decide +kernel
def mX9_weigh : MD := (9, yX9_weigh, cX9_weigh, 10, none)
theorem sel_X9_weigh : Cond.instanceMethod mX9_weigh.2.1 ∈ tblG ∧ Cond.selects mX9_weigh.2.1.cls mX9_weigh.2.1 mX9_weigh.2.1 ∈ tblG := ⟨tblG_in (inT6 (List.mem_of_getElem? (i := 2) rfl)) rfl, tblG_in (inT6 (List.mem_of_getElem? (i := 3) rfl)) rfl⟩
theorem s_11_238 : e_siteV 11 238 mX9_weigh 9 := ⟨tblG_in (inT6 (List.mem_of_getElem? (i := 1) rfl)) rfl, sel_X9_weigh.1, sel_X9_weigh.2, rfl⟩
theorem d_X9_weigh_0 : decode mX9_weigh.2.2.1 0 = .ok (.aload_n 0, 1) := by decide +kernel
theorem d_X9_weigh_1 : decode mX9_weigh.2.2.1 1 = .ok (.getfield 19, 3) := by decide +kernel
theorem d_X9_weigh_4 : decode mX9_weigh.2.2.1 4 = .ok (.iload_n 3, 1) := by decide +kernel
theorem d_X9_weigh_5 : decode mX9_weigh.2.2.1 5 = .ok (.if_icmp .ne 4, 3) := by decide +kernel
theorem d_X9_weigh_9 : decode mX9_weigh.2.2.1 9 = .ok (.aload_n 0, 1) := by decide +kernel
theorem d_X9_weigh_10 : decode mX9_weigh.2.2.1 10 = .ok (.iload_n 3, 1) := by decide +kernel
theorem d_X9_weigh_11 : decode mX9_weigh.2.2.1 11 = .ok (.putfield 19, 3) := by decide +kernel
theorem d_X9_weigh_14 : decode mX9_weigh.2.2.1 14 = .ok (.aload_n 0, 1) := by decide +kernel
theorem d_X9_weigh_15 : decode mX9_weigh.2.2.1 15 = .ok (.aload_n 2, 1) := by decide +kernel
theorem d_X9_weigh_16 : decode mX9_weigh.2.2.1 16 = .ok (.getfield 23, 3) := by decide +kernel
theorem f_9_23 : e_fld 9 23 8 5 12 2 false := ⟨RX8, TX8, 5, rfl, rfl, by decide, rfl, rfl, rfl, iX8, tblG_in (inT2 (List.mem_of_getElem? (i := 25) rfl)) rfl, tyX8_ok, nmX8⟩
theorem d_X9_weigh_19 : decode mX9_weigh.2.2.1 19 = .ok (.iload_n 3, 1) := by decide +kernel
theorem d_X9_weigh_20 : decode mX9_weigh.2.2.1 20 = .ok (.laload, 1) := by decide +kernel
theorem d_X9_weigh_21 : decode mX9_weigh.2.2.1 21 = .ok (.putfield 28, 3) := by decide +kernel
theorem f_9_28 : e_fld 9 28 9 2 4 1 false := ⟨RX9, TX9, 2, rfl, rfl, by decide, rfl, rfl, rfl, iX9, tblG_in (inT2 (List.mem_of_getElem? (i := 172) rfl)) rfl, tyX9_ok, nmX9⟩
theorem d_X9_weigh_24 : decode mX9_weigh.2.2.1 24 = .ok (.aload_n 0, 1) := by decide +kernel
theorem d_X9_weigh_25 : decode mX9_weigh.2.2.1 25 = .ok (.getfield 11, 3) := by decide +kernel
theorem d_X9_weigh_28 : decode mX9_weigh.2.2.1 28 = .ok (.lconst 0, 1) := by decide +kernel
theorem d_X9_weigh_29 : decode mX9_weigh.2.2.1 29 = .ok (.invokestatic 31, 3) := by decide +kernel
def mJ7_fill_d0a16 : MD := (14, yJ7_fill_d0a16, cJ7_fill_d0a16, 5, none)
theorem s_9_31 : e_siteS 9 31 mJ7_fill_d0a16 := ⟨tblG_in (inT6 (List.mem_of_getElem? (i := 5) rfl)) rfl, tblG_in (inT6 (List.mem_of_getElem? (i := 6) rfl)) rfl⟩
theorem d_J7_fill_d0a16_0 : decode mJ7_fill_d0a16.2.2.1 0 = .ok (.iconst 0, 1) := by decide +kernel
theorem d_J7_fill_d0a16_1 : decode mJ7_fill_d0a16.2.2.1 1 = .ok (.istore_n 3, 1) := by decide +kernel
theorem d_J7_fill_d0a16_2 : decode mJ7_fill_d0a16.2.2.1 2 = .ok (.aload_n 0, 1) := by decide +kernel
theorem d_J7_fill_d0a16_3 : decode mJ7_fill_d0a16.2.2.1 3 = .ok (.arraylength, 1) := by decide +kernel
theorem d_J7_fill_d0a16_4 : decode mJ7_fill_d0a16.2.2.1 4 = .ok (.istore 4, 2) := by decide +kernel
theorem d_J7_fill_d0a16_6 : decode mJ7_fill_d0a16.2.2.1 6 = .ok (.iload_n 3, 1) := by decide +kernel
theorem d_J7_fill_d0a16_7 : decode mJ7_fill_d0a16.2.2.1 7 = .ok (.iload 4, 2) := by decide +kernel
theorem d_J7_fill_d0a16_9 : decode mJ7_fill_d0a16.2.2.1 9 = .ok (.if_icmp .ge 13, 3) := by decide +kernel
theorem d_J7_fill_d0a16_12 : decode mJ7_fill_d0a16.2.2.1 12 = .ok (.aload_n 0, 1) := by decide +kernel
theorem d_J7_fill_d0a16_13 : decode mJ7_fill_d0a16.2.2.1 13 = .ok (.iload_n 3, 1) := by decide +kernel
theorem d_J7_fill_d0a16_14 : decode mJ7_fill_d0a16.2.2.1 14 = .ok (.lload_n 1, 1) := by decide +kernel
theorem d_J7_fill_d0a16_15 : decode mJ7_fill_d0a16.2.2.1 15 = .ok (.lastore, 1) := by decide +kernel
theorem d_J7_fill_d0a16_16 : decode mJ7_fill_d0a16.2.2.1 16 = .ok (.iinc 3 1, 3) := by decide +kernel
theorem d_J7_fill_d0a16_19 : decode mJ7_fill_d0a16.2.2.1 19 = .ok (.goto (-13), 3) := by decide +kernel
theorem d_J7_fill_d0a16_22 : decode mJ7_fill_d0a16.2.2.1 22 = .ok (.return_, 1) := by decide +kernel
theorem ok_J7_fill_d0a16 : e_m mJ7_fill_d0a16 2 := ⟨tblG_in (inT6 (List.mem_of_getElem? (i := 7) rfl)) rfl, plainFor_of_name (by decide), rfl, ini_14, by decide +kernel, by decide⟩
theorem d_X9_weigh_32 : decode mX9_weigh.2.2.1 32 = .ok (.aload_n 0, 1) := by decide +kernel
theorem d_X9_weigh_33 : decode mX9_weigh.2.2.1 33 = .ok (.getfield 15, 3) := by decide +kernel
theorem d_X9_weigh_36 : decode mX9_weigh.2.2.1 36 = .ok (.iconst (-1), 1) := by decide +kernel
theorem d_X9_weigh_37 : decode mX9_weigh.2.2.1 37 = .ok (.invokestatic 37, 3) := by decide +kernel
theorem s_9_37 : e_siteS 9 37 mJ7_fill_53178 := ⟨tblG_in (inT6 (List.mem_of_getElem? (i := 8) rfl)) rfl, tblG_in (inT3 (List.mem_of_getElem? (i := 42) rfl)) rfl⟩
theorem d_X9_weigh_40 : decode mX9_weigh.2.2.1 40 = .ok (.aload_n 2, 1) := by decide +kernel
theorem d_X9_weigh_41 : decode mX9_weigh.2.2.1 41 = .ok (.getfield 40, 3) := by decide +kernel
theorem f_9_40 : e_fld 9 40 8 1 12 2 false := ⟨RX8, TX8, 1, rfl, rfl, by decide, rfl, rfl, rfl, iX8, tblG_in (inT2 (List.mem_of_getElem? (i := 13) rfl)) rfl, tyX8_ok, nmX8⟩
theorem d_X9_weigh_44 : decode mX9_weigh.2.2.1 44 = .ok (.iload_n 3, 1) := by decide +kernel
theorem d_X9_weigh_45 : decode mX9_weigh.2.2.1 45 = .ok (.iaload, 1) := by decide +kernel
theorem d_X9_weigh_46 : decode mX9_weigh.2.2.1 46 = .ok (.istore 4, 2) := by decide +kernel
theorem d_X9_weigh_48 : decode mX9_weigh.2.2.1 48 = .ok (.aload_n 1, 1) := by decide +kernel
theorem d_X9_weigh_49 : decode mX9_weigh.2.2.1 49 = .ok (.getfield 43, 3) := by decide +kernel
theorem f_9_43 : e_fld 9 43 3 5 12 2 true := ⟨RX3, TX3, 5, rfl, rfl, by decide, rfl, rfl, rfl, iX3, tblG_in (inT1 (List.mem_of_getElem? (i := 179) rfl)) rfl, tyX3_ok, nmX3⟩
theorem d_X9_weigh_52 : decode mX9_weigh.2.2.1 52 = .ok (.iload 4, 2) := by decide +kernel
theorem d_X9_weigh_54 : decode mX9_weigh.2.2.1 54 = .ok (.iconst 4, 1) := by decide +kernel
theorem d_X9_weigh_55 : decode mX9_weigh.2.2.1 55 = .ok (.imul, 1) := by decide +kernel
theorem d_X9_weigh_56 : decode mX9_weigh.2.2.1 56 = .ok (.iconst 2, 1) := by decide +kernel
theorem d_X9_weigh_57 : decode mX9_weigh.2.2.1 57 = .ok (.iadd, 1) := by decide +kernel
theorem d_X9_weigh_58 : decode mX9_weigh.2.2.1 58 = .ok (.iaload, 1) := by decide +kernel
theorem d_X9_weigh_59 : decode mX9_weigh.2.2.1 59 = .ok (.istore 5, 2) := by decide +kernel
theorem d_X9_weigh_61 : decode mX9_weigh.2.2.1 61 = .ok (.aload_n 1, 1) := by decide +kernel
theorem d_X9_weigh_62 : decode mX9_weigh.2.2.1 62 = .ok (.iload 4, 2) := by decide +kernel
theorem d_X9_weigh_64 : decode mX9_weigh.2.2.1 64 = .ok (.invokevirtual 48, 3) := by decide +kernel
theorem s_9_48 : e_siteV 9 48 mX3_wakeCost 3 := ⟨tblG_in (inT6 (List.mem_of_getElem? (i := 9) rfl)) rfl, sel_X3_wakeCost.1, sel_X3_wakeCost.2, rfl⟩
theorem d_X9_weigh_67 : decode mX9_weigh.2.2.1 67 = .ok (.istore 6, 2) := by decide +kernel
theorem d_X9_weigh_69 : decode mX9_weigh.2.2.1 69 = .ok (.iconst 0, 1) := by decide +kernel
theorem d_X9_weigh_70 : decode mX9_weigh.2.2.1 70 = .ok (.istore 7, 2) := by decide +kernel
theorem d_X9_weigh_8 : decode mX9_weigh.2.2.1 8 = .ok (.return_, 1) := by decide +kernel
theorem d_X9_weigh_72 : decode mX9_weigh.2.2.1 72 = .ok (.iload 7, 2) := by decide +kernel
theorem d_X9_weigh_74 : decode mX9_weigh.2.2.1 74 = .ok (.aload_n 2, 1) := by decide +kernel
theorem d_X9_weigh_75 : decode mX9_weigh.2.2.1 75 = .ok (.getfield 52, 3) := by decide +kernel
theorem f_9_52 : e_fld 9 52 8 7 12 0 false := ⟨RX8, TX8, 7, rfl, rfl, by decide, rfl, rfl, rfl, iX8, tblG_in (inT2 (List.mem_of_getElem? (i := 31) rfl)) rfl, tyX8_ok, nmX8⟩
theorem d_X9_weigh_78 : decode mX9_weigh.2.2.1 78 = .ok (.if_icmp .ge 101, 3) := by decide +kernel
theorem d_X9_weigh_179 : decode mX9_weigh.2.2.1 179 = .ok (.return_, 1) := by decide +kernel
theorem d_X9_weigh_81 : decode mX9_weigh.2.2.1 81 = .ok (.aload_n 2, 1) := by decide +kernel
theorem d_X9_weigh_82 : decode mX9_weigh.2.2.1 82 = .ok (.getfield 55, 3) := by decide +kernel
theorem f_9_55 : e_fld 9 55 8 10 12 2 false := ⟨RX8, TX8, 10, rfl, rfl, by decide, rfl, rfl, rfl, iX8, tblG_in (inT2 (List.mem_of_getElem? (i := 37) rfl)) rfl, tyX8_ok, nmX8⟩
theorem d_X9_weigh_85 : decode mX9_weigh.2.2.1 85 = .ok (.iload 7, 2) := by decide +kernel
theorem d_X9_weigh_87 : decode mX9_weigh.2.2.1 87 = .ok (.iaload, 1) := by decide +kernel
theorem d_X9_weigh_88 : decode mX9_weigh.2.2.1 88 = .ok (.istore 8, 2) := by decide +kernel
theorem d_X9_weigh_90 : decode mX9_weigh.2.2.1 90 = .ok (.aload_n 2, 1) := by decide +kernel
theorem d_X9_weigh_91 : decode mX9_weigh.2.2.1 91 = .ok (.getfield 58, 3) := by decide +kernel
theorem f_9_58 : e_fld 9 58 8 8 12 2 false := ⟨RX8, TX8, 8, rfl, rfl, by decide, rfl, rfl, rfl, iX8, tblG_in (inT2 (List.mem_of_getElem? (i := 33) rfl)) rfl, tyX8_ok, nmX8⟩
theorem d_X9_weigh_94 : decode mX9_weigh.2.2.1 94 = .ok (.iload 7, 2) := by decide +kernel
theorem d_X9_weigh_96 : decode mX9_weigh.2.2.1 96 = .ok (.iaload, 1) := by decide +kernel
theorem d_X9_weigh_97 : decode mX9_weigh.2.2.1 97 = .ok (.iload 4, 2) := by decide +kernel
theorem d_X9_weigh_99 : decode mX9_weigh.2.2.1 99 = .ok (.if_icmp .ne 74, 3) := by decide +kernel
theorem d_X9_weigh_102 : decode mX9_weigh.2.2.1 102 = .ok (.iload 8, 2) := by decide +kernel
theorem d_X9_weigh_104 : decode mX9_weigh.2.2.1 104 = .ok (.aload_n 2, 1) := by decide +kernel
theorem d_X9_weigh_105 : decode mX9_weigh.2.2.1 105 = .ok (.getfield 61, 3) := by decide +kernel
theorem f_9_61 : e_fld 9 61 8 2 12 2 false := ⟨RX8, TX8, 2, rfl, rfl, by decide, rfl, rfl, rfl, iX8, tblG_in (inT2 (List.mem_of_getElem? (i := 16) rfl)) rfl, tyX8_ok, nmX8⟩
theorem d_X9_weigh_108 : decode mX9_weigh.2.2.1 108 = .ok (.iload_n 3, 1) := by decide +kernel
theorem d_X9_weigh_109 : decode mX9_weigh.2.2.1 109 = .ok (.iaload, 1) := by decide +kernel
theorem d_X9_weigh_110 : decode mX9_weigh.2.2.1 110 = .ok (.if_icmp .lt 63, 3) := by decide +kernel
theorem d_X9_weigh_113 : decode mX9_weigh.2.2.1 113 = .ok (.iload 8, 2) := by decide +kernel
theorem d_X9_weigh_115 : decode mX9_weigh.2.2.1 115 = .ok (.aload_n 2, 1) := by decide +kernel
theorem d_X9_weigh_116 : decode mX9_weigh.2.2.1 116 = .ok (.getfield 64, 3) := by decide +kernel
theorem f_9_64 : e_fld 9 64 8 3 12 2 false := ⟨RX8, TX8, 3, rfl, rfl, by decide, rfl, rfl, rfl, iX8, tblG_in (inT2 (List.mem_of_getElem? (i := 19) rfl)) rfl, tyX8_ok, nmX8⟩
theorem d_X9_weigh_119 : decode mX9_weigh.2.2.1 119 = .ok (.iload_n 3, 1) := by decide +kernel
theorem d_X9_weigh_120 : decode mX9_weigh.2.2.1 120 = .ok (.iaload, 1) := by decide +kernel
theorem d_X9_weigh_121 : decode mX9_weigh.2.2.1 121 = .ok (.if_icmp .ge 52, 3) := by decide +kernel
theorem d_X9_weigh_124 : decode mX9_weigh.2.2.1 124 = .ok (.aload_n 2, 1) := by decide +kernel
theorem d_X9_weigh_125 : decode mX9_weigh.2.2.1 125 = .ok (.getfield 67, 3) := by decide +kernel
theorem f_9_67 : e_fld 9 67 8 11 12 2 false := ⟨RX8, TX8, 11, rfl, rfl, by decide, rfl, rfl, rfl, iX8, tblG_in (inT2 (List.mem_of_getElem? (i := 39) rfl)) rfl, tyX8_ok, nmX8⟩
theorem d_X9_weigh_128 : decode mX9_weigh.2.2.1 128 = .ok (.iload 7, 2) := by decide +kernel
theorem d_X9_weigh_130 : decode mX9_weigh.2.2.1 130 = .ok (.iaload, 1) := by decide +kernel
theorem d_X9_weigh_131 : decode mX9_weigh.2.2.1 131 = .ok (.aload_n 1, 1) := by decide +kernel
theorem d_X9_weigh_132 : decode mX9_weigh.2.2.1 132 = .ok (.getfield 70, 3) := by decide +kernel
theorem f_9_70 : e_fld 9 70 3 7 12 2 true := ⟨RX3, TX3, 7, rfl, rfl, by decide, rfl, rfl, rfl, iX3, tblG_in (inT1 (List.mem_of_getElem? (i := 189) rfl)) rfl, tyX3_ok, nmX3⟩
theorem d_X9_weigh_135 : decode mX9_weigh.2.2.1 135 = .ok (.iload 4, 2) := by decide +kernel
theorem d_X9_weigh_137 : decode mX9_weigh.2.2.1 137 = .ok (.iaload, 1) := by decide +kernel
theorem d_X9_weigh_138 : decode mX9_weigh.2.2.1 138 = .ok (.iadd, 1) := by decide +kernel
theorem d_X9_weigh_139 : decode mX9_weigh.2.2.1 139 = .ok (.aload_n 2, 1) := by decide +kernel
theorem d_X9_weigh_140 : decode mX9_weigh.2.2.1 140 = .ok (.getfield 64, 3) := by decide +kernel
theorem d_X9_weigh_143 : decode mX9_weigh.2.2.1 143 = .ok (.iload_n 3, 1) := by decide +kernel
theorem d_X9_weigh_144 : decode mX9_weigh.2.2.1 144 = .ok (.iaload, 1) := by decide +kernel
theorem d_X9_weigh_145 : decode mX9_weigh.2.2.1 145 = .ok (.invokestatic 73, 3) := by decide +kernel
theorem ml_9_73 : Cond.methodLink (e_cn 9) 73 Lib.Math.min.name ∈ tblG := tblG_in (inT6 (List.mem_of_getElem? (i := 13) rfl)) rfl
theorem d_X9_weigh_148 : decode mX9_weigh.2.2.1 148 = .ok (.istore 9, 2) := by decide +kernel
theorem d_X9_weigh_150 : decode mX9_weigh.2.2.1 150 = .ok (.aload_n 0, 1) := by decide +kernel
theorem d_X9_weigh_151 : decode mX9_weigh.2.2.1 151 = .ok (.aload_n 0, 1) := by decide +kernel
theorem d_X9_weigh_152 : decode mX9_weigh.2.2.1 152 = .ok (.aload_n 2, 1) := by decide +kernel
theorem d_X9_weigh_153 : decode mX9_weigh.2.2.1 153 = .ok (.getfield 79, 3) := by decide +kernel
theorem f_9_79 : e_fld 9 79 8 9 12 2 false := ⟨RX8, TX8, 9, rfl, rfl, by decide, rfl, rfl, rfl, iX8, tblG_in (inT2 (List.mem_of_getElem? (i := 35) rfl)) rfl, tyX8_ok, nmX8⟩
theorem d_X9_weigh_156 : decode mX9_weigh.2.2.1 156 = .ok (.iload 7, 2) := by decide +kernel
theorem d_X9_weigh_158 : decode mX9_weigh.2.2.1 158 = .ok (.iaload, 1) := by decide +kernel
theorem d_X9_weigh_159 : decode mX9_weigh.2.2.1 159 = .ok (.invokevirtual 82, 3) := by decide +kernel
def mX9_bitOf : MD := (9, yX9_bitOf, cX9_bitOf, 2, some .int)
theorem sel_X9_bitOf : Cond.instanceMethod mX9_bitOf.2.1 ∈ tblG ∧ Cond.selects mX9_bitOf.2.1.cls mX9_bitOf.2.1 mX9_bitOf.2.1 ∈ tblG := ⟨tblG_in (inT6 (List.mem_of_getElem? (i := 16) rfl)) rfl, tblG_in (inP4 (q := (mX9_bitOf.2.1, 4)) (List.mem_of_getElem? (i := 13) rfl)) rfl⟩
theorem s_9_82 : e_siteV 9 82 mX9_bitOf 9 := ⟨tblG_in (inT6 (List.mem_of_getElem? (i := 14) rfl)) rfl, sel_X9_bitOf.1, sel_X9_bitOf.2, rfl⟩
theorem d_X9_bitOf_0 : decode mX9_bitOf.2.2.1 0 = .ok (.iconst 1, 1) := by decide +kernel
theorem d_X9_bitOf_1 : decode mX9_bitOf.2.2.1 1 = .ok (.aload_n 0, 1) := by decide +kernel
theorem d_X9_bitOf_2 : decode mX9_bitOf.2.2.1 2 = .ok (.iload_n 1, 1) := by decide +kernel
theorem d_X9_bitOf_3 : decode mX9_bitOf.2.2.1 3 = .ok (.invokevirtual 95, 3) := by decide +kernel
def mX9_rank : MD := (9, yX9_rank, cX9_rank, 2, some .int)
theorem sel_X9_rank : Cond.instanceMethod mX9_rank.2.1 ∈ tblG ∧ Cond.selects mX9_rank.2.1.cls mX9_rank.2.1 mX9_rank.2.1 ∈ tblG := ⟨tblG_in (inT6 (List.mem_of_getElem? (i := 20) rfl)) rfl, tblG_in (inP4 (q := (mX9_rank.2.1, 4)) (List.mem_of_getElem? (i := 14) rfl)) rfl⟩
theorem s_9_95 : e_siteV 9 95 mX9_rank 9 := ⟨tblG_in (inT6 (List.mem_of_getElem? (i := 18) rfl)) rfl, sel_X9_rank.1, sel_X9_rank.2, rfl⟩
theorem d_X9_rank_0 : decode mX9_rank.2.2.1 0 = .ok (.aload_n 0, 1) := by decide +kernel
theorem d_X9_rank_1 : decode mX9_rank.2.2.1 1 = .ok (.getfield 28, 3) := by decide +kernel
theorem d_X9_rank_4 : decode mX9_rank.2.2.1 4 = .ok (.lconst 1, 1) := by decide +kernel
theorem d_X9_rank_5 : decode mX9_rank.2.2.1 5 = .ok (.iload_n 1, 1) := by decide +kernel
theorem d_X9_rank_6 : decode mX9_rank.2.2.1 6 = .ok (.lshl, 1) := by decide +kernel
theorem d_X9_rank_7 : decode mX9_rank.2.2.1 7 = .ok (.lconst 1, 1) := by decide +kernel
theorem d_X9_rank_8 : decode mX9_rank.2.2.1 8 = .ok (.lsub, 1) := by decide +kernel
theorem d_X9_rank_9 : decode mX9_rank.2.2.1 9 = .ok (.land, 1) := by decide +kernel
theorem d_X9_rank_10 : decode mX9_rank.2.2.1 10 = .ok (.invokestatic 89, 3) := by decide +kernel
theorem s_9_89 : e_siteS 9 89 mJ13_bitCount_95d88 := ⟨tblG_in (inT6 (List.mem_of_getElem? (i := 22) rfl)) rfl, tblG_in (inT5 (List.mem_of_getElem? (i := 206) rfl)) rfl⟩
theorem d_X9_rank_13 : decode mX9_rank.2.2.1 13 = .ok (.ireturn, 1) := by decide +kernel
theorem ok_X9_rank : e_m mX9_rank 1 := ⟨tblG_in (inT6 (List.mem_of_getElem? (i := 21) rfl)) rfl, plainFor_of_name (by decide), rfl, ini_9, by decide +kernel, by decide⟩
theorem d_X9_bitOf_6 : decode mX9_bitOf.2.2.1 6 = .ok (.ishl, 1) := by decide +kernel
theorem d_X9_bitOf_7 : decode mX9_bitOf.2.2.1 7 = .ok (.ireturn, 1) := by decide +kernel
theorem ok_X9_bitOf : e_m mX9_bitOf 1 := ⟨tblG_in (inT6 (List.mem_of_getElem? (i := 17) rfl)) rfl, plainFor_of_name (by decide), rfl, ini_9, by decide +kernel, by decide⟩
theorem d_X9_weigh_162 : decode mX9_weigh.2.2.1 162 = .ok (.iload 8, 2) := by decide +kernel
theorem d_X9_weigh_164 : decode mX9_weigh.2.2.1 164 = .ok (.iload 9, 2) := by decide +kernel
theorem d_X9_weigh_166 : decode mX9_weigh.2.2.1 166 = .ok (.iload 5, 2) := by decide +kernel
theorem d_X9_weigh_168 : decode mX9_weigh.2.2.1 168 = .ok (.iload 6, 2) := by decide +kernel
theorem d_X9_weigh_170 : decode mX9_weigh.2.2.1 170 = .ok (.invokevirtual 85, 3) := by decide +kernel
def mX9_spread : MD := (9, yX9_spread, cX9_spread, 7, none)
theorem sel_X9_spread : Cond.instanceMethod mX9_spread.2.1 ∈ tblG ∧ Cond.selects mX9_spread.2.1.cls mX9_spread.2.1 mX9_spread.2.1 ∈ tblG := ⟨tblG_in (inT6 (List.mem_of_getElem? (i := 25) rfl)) rfl, tblG_in (inP4 (q := (mX9_spread.2.1, 4)) (List.mem_of_getElem? (i := 15) rfl)) rfl⟩
theorem s_9_85 : e_siteV 9 85 mX9_spread 9 := ⟨tblG_in (inT6 (List.mem_of_getElem? (i := 23) rfl)) rfl, sel_X9_spread.1, sel_X9_spread.2, rfl⟩
theorem d_X9_spread_0 : decode mX9_spread.2.2.1 0 = .ok (.iload_n 3, 1) := by decide +kernel
theorem d_X9_spread_1 : decode mX9_spread.2.2.1 1 = .ok (.iload_n 2, 1) := by decide +kernel
theorem d_X9_spread_2 : decode mX9_spread.2.2.1 2 = .ok (.if_icmp .gt 4, 3) := by decide +kernel
theorem d_X9_spread_6 : decode mX9_spread.2.2.1 6 = .ok (.iconst 1, 1) := by decide +kernel
theorem d_X9_spread_7 : decode mX9_spread.2.2.1 7 = .ok (.istore 6, 2) := by decide +kernel
theorem d_X9_spread_5 : decode mX9_spread.2.2.1 5 = .ok (.return_, 1) := by decide +kernel
theorem d_X9_spread_9 : decode mX9_spread.2.2.1 9 = .ok (.iload 6, 2) := by decide +kernel
theorem d_X9_spread_11 : decode mX9_spread.2.2.1 11 = .ok (.sipush 256, 3) := by decide +kernel
theorem d_X9_spread_14 : decode mX9_spread.2.2.1 14 = .ok (.if_icmp .ge 103, 3) := by decide +kernel
theorem d_X9_spread_17 : decode mX9_spread.2.2.1 17 = .ok (.iload 6, 2) := by decide +kernel
theorem d_X9_spread_19 : decode mX9_spread.2.2.1 19 = .ok (.iload_n 1, 1) := by decide +kernel
theorem d_X9_spread_20 : decode mX9_spread.2.2.1 20 = .ok (.iand, 1) := by decide +kernel
theorem d_X9_spread_21 : decode mX9_spread.2.2.1 21 = .ok (.ifCond .eq 90, 3) := by decide +kernel
theorem d_X9_spread_24 : decode mX9_spread.2.2.1 24 = .ok (.iload_n 2, 1) := by decide +kernel
theorem d_X9_spread_25 : decode mX9_spread.2.2.1 25 = .ok (.aload_n 0, 1) := by decide +kernel
theorem d_X9_spread_26 : decode mX9_spread.2.2.1 26 = .ok (.getfield 15, 3) := by decide +kernel
theorem d_X9_spread_29 : decode mX9_spread.2.2.1 29 = .ok (.iload 6, 2) := by decide +kernel
theorem d_X9_spread_31 : decode mX9_spread.2.2.1 31 = .ok (.iaload, 1) := by decide +kernel
theorem d_X9_spread_32 : decode mX9_spread.2.2.1 32 = .ok (.if_icmp .le 36, 3) := by decide +kernel
theorem d_X9_spread_68 : decode mX9_spread.2.2.1 68 = .ok (.iload_n 3, 1) := by decide +kernel
theorem d_X9_spread_69 : decode mX9_spread.2.2.1 69 = .ok (.aload_n 0, 1) := by decide +kernel
theorem d_X9_spread_70 : decode mX9_spread.2.2.1 70 = .ok (.getfield 15, 3) := by decide +kernel
theorem d_X9_spread_73 : decode mX9_spread.2.2.1 73 = .ok (.iload 6, 2) := by decide +kernel
theorem d_X9_spread_75 : decode mX9_spread.2.2.1 75 = .ok (.iaload, 1) := by decide +kernel
theorem d_X9_spread_76 : decode mX9_spread.2.2.1 76 = .ok (.if_icmp .le 35, 3) := by decide +kernel
theorem d_X9_spread_79 : decode mX9_spread.2.2.1 79 = .ok (.aload_n 0, 1) := by decide +kernel
theorem d_X9_spread_80 : decode mX9_spread.2.2.1 80 = .ok (.getfield 11, 3) := by decide +kernel
theorem d_X9_spread_83 : decode mX9_spread.2.2.1 83 = .ok (.iload 6, 2) := by decide +kernel
theorem d_X9_spread_85 : decode mX9_spread.2.2.1 85 = .ok (.dup2, 1) := by decide +kernel
theorem d_X9_spread_86 : decode mX9_spread.2.2.1 86 = .ok (.laload, 1) := by decide +kernel
theorem d_X9_spread_87 : decode mX9_spread.2.2.1 87 = .ok (.iload 4, 2) := by decide +kernel
theorem d_X9_spread_89 : decode mX9_spread.2.2.1 89 = .ok (.i2l, 1) := by decide +kernel
