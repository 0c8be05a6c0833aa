theorem sel_X11_isPart : Cond.instanceMethod mX11_isPart.2.1 ∈ tblG ∧ Cond.selects mX11_isPart.2.1.cls mX11_isPart.2.1 mX11_isPart.2.1 ∈ tblG := ⟨tblG_in (inT5 (List.mem_of_getElem? (i := 180) rfl)) rfl, tblG_in (inP4 (q := (mX11_isPart.2.1, 14)) (List.mem_of_getElem? (i := 10) rfl)) rfl⟩
theorem s_11_174 : e_siteV 11 174 mX11_isPart 11 := ⟨tblG_in (inT5 (List.mem_of_getElem? (i := 178) rfl)) rfl, sel_X11_isPart.1, sel_X11_isPart.2, rfl⟩
theorem d_X11_isPart_0 : decode mX11_isPart.2.2.1 0 = .ok (.iload_n 1, 1) := by decide +kernel
theorem d_X11_isPart_1 : decode mX11_isPart.2.2.1 1 = .ok (.ifCond .lt 20, 3) := by decide +kernel
theorem d_X11_isPart_21 : decode mX11_isPart.2.2.1 21 = .ok (.iconst 0, 1) := by decide +kernel
theorem d_X11_isPart_22 : decode mX11_isPart.2.2.1 22 = .ok (.ireturn, 1) := by decide +kernel
theorem d_X11_isPart_4 : decode mX11_isPart.2.2.1 4 = .ok (.iload_n 1, 1) := by decide +kernel
theorem d_X11_isPart_5 : decode mX11_isPart.2.2.1 5 = .ok (.aload_n 0, 1) := by decide +kernel
theorem d_X11_isPart_6 : decode mX11_isPart.2.2.1 6 = .ok (.getfield 30, 3) := by decide +kernel
theorem d_X11_isPart_9 : decode mX11_isPart.2.2.1 9 = .ok (.getfield 130, 3) := by decide +kernel
theorem d_X11_isPart_12 : decode mX11_isPart.2.2.1 12 = .ok (.iconst 0, 1) := by decide +kernel
theorem d_X11_isPart_13 : decode mX11_isPart.2.2.1 13 = .ok (.iaload, 1) := by decide +kernel
theorem d_X11_isPart_14 : decode mX11_isPart.2.2.1 14 = .ok (.if_icmp .ge 7, 3) := by decide +kernel
theorem d_X11_isPart_17 : decode mX11_isPart.2.2.1 17 = .ok (.iconst 1, 1) := by decide +kernel
theorem d_X11_isPart_18 : decode mX11_isPart.2.2.1 18 = .ok (.goto 4, 3) := by decide +kernel
theorem ok_X11_isPart : e_m mX11_isPart 1 := ⟨tblG_in (inT5 (List.mem_of_getElem? (i := 181) rfl)) rfl, plainFor_of_name (by decide), rfl, ini_11, by decide +kernel, by decide⟩
theorem d_X11_spent_12 : decode mX11_spent.2.2.1 12 = .ok (.ifCond .eq 12, 3) := by decide +kernel
theorem d_X11_spent_15 : decode mX11_spent.2.2.1 15 = .ok (.iload_n 2, 1) := by decide +kernel
theorem d_X11_spent_16 : decode mX11_spent.2.2.1 16 = .ok (.ifCond .lt 8, 3) := by decide +kernel
theorem d_X11_spent_19 : decode mX11_spent.2.2.1 19 = .ok (.iload_n 2, 1) := by decide +kernel
theorem d_X11_spent_20 : decode mX11_spent.2.2.1 20 = .ok (.iconst 4, 1) := by decide +kernel
theorem d_X11_spent_21 : decode mX11_spent.2.2.1 21 = .ok (.if_icmp .lt 5, 3) := by decide +kernel
theorem d_X11_spent_26 : decode mX11_spent.2.2.1 26 = .ok (.aload_n 0, 1) := by decide +kernel
theorem d_X11_spent_27 : decode mX11_spent.2.2.1 27 = .ok (.getfield 46, 3) := by decide +kernel
theorem d_X11_spent_30 : decode mX11_spent.2.2.1 30 = .ok (.getfield 178, 3) := by decide +kernel
theorem f_11_178 : e_fld 11 178 6 0 18 2 true := ⟨RX6, TX6, 0, rfl, rfl, by decide, rfl, rfl, rfl, iX6, tblG_in (inT2 (List.mem_of_getElem? (i := 100) rfl)) rfl, tyX6_ok, nmX6⟩
theorem d_X11_spent_33 : decode mX11_spent.2.2.1 33 = .ok (.getfield 182, 3) := by decide +kernel
theorem f_11_182 : e_fld 11 182 1 2 9 2 true := ⟨RX1, TX1, 2, rfl, rfl, by decide, rfl, rfl, rfl, iX1, tblG_in (inT2 (List.mem_of_getElem? (i := 70) rfl)) rfl, tyX1_ok, nmX1⟩
theorem d_X11_spent_36 : decode mX11_spent.2.2.1 36 = .ok (.iload_n 1, 1) := by decide +kernel
theorem d_X11_spent_37 : decode mX11_spent.2.2.1 37 = .ok (.iconst 4, 1) := by decide +kernel
theorem d_X11_spent_38 : decode mX11_spent.2.2.1 38 = .ok (.imul, 1) := by decide +kernel
theorem d_X11_spent_39 : decode mX11_spent.2.2.1 39 = .ok (.iload_n 2, 1) := by decide +kernel
theorem d_X11_spent_40 : decode mX11_spent.2.2.1 40 = .ok (.iadd, 1) := by decide +kernel
theorem d_X11_spent_41 : decode mX11_spent.2.2.1 41 = .ok (.iaload, 1) := by decide +kernel
theorem d_X11_spent_42 : decode mX11_spent.2.2.1 42 = .ok (.ireturn, 1) := by decide +kernel
def mX11_pays : MD := (11, yX11_pays, cX11_pays, 3, some .int)
theorem d_X11_pays_0 : decode mX11_pays.2.2.1 0 = .ok (.aload_n 0, 1) := by decide +kernel
theorem d_X11_pays_1 : decode mX11_pays.2.2.1 1 = .ok (.getfield 109, 3) := by decide +kernel
theorem d_X11_pays_4 : decode mX11_pays.2.2.1 4 = .ok (.ifCond .eq 12, 3) := by decide +kernel
theorem d_X11_pays_16 : decode mX11_pays.2.2.1 16 = .ok (.iconst (-1), 1) := by decide +kernel
theorem d_X11_pays_17 : decode mX11_pays.2.2.1 17 = .ok (.ireturn, 1) := by decide +kernel
theorem d_X11_pays_7 : decode mX11_pays.2.2.1 7 = .ok (.iload_n 2, 1) := by decide +kernel
theorem d_X11_pays_8 : decode mX11_pays.2.2.1 8 = .ok (.ifCond .lt 8, 3) := by decide +kernel
theorem d_X11_pays_11 : decode mX11_pays.2.2.1 11 = .ok (.iload_n 2, 1) := by decide +kernel
theorem d_X11_pays_12 : decode mX11_pays.2.2.1 12 = .ok (.iconst 1, 1) := by decide +kernel
theorem d_X11_pays_13 : decode mX11_pays.2.2.1 13 = .ok (.if_icmp .le 5, 3) := by decide +kernel
theorem d_X11_pays_18 : decode mX11_pays.2.2.1 18 = .ok (.iload_n 1, 1) := by decide +kernel
theorem d_X11_pays_19 : decode mX11_pays.2.2.1 19 = .ok (.iconst (-1), 1) := by decide +kernel
theorem d_X11_pays_20 : decode mX11_pays.2.2.1 20 = .ok (.if_icmp .ne 14, 3) := by decide +kernel
theorem d_X11_pays_34 : decode mX11_pays.2.2.1 34 = .ok (.aload_n 0, 1) := by decide +kernel
theorem d_X11_pays_35 : decode mX11_pays.2.2.1 35 = .ok (.iload_n 1, 1) := by decide +kernel
theorem d_X11_pays_36 : decode mX11_pays.2.2.1 36 = .ok (.invokevirtual 191, 3) := by decide +kernel
def mX11_isLine : MD := (11, yX11_isLine, cX11_isLine, 2, some .boolean)
theorem sel_X11_isLine : Cond.instanceMethod mX11_isLine.2.1 ∈ tblG ∧ Cond.selects mX11_isLine.2.1.cls mX11_isLine.2.1 mX11_isLine.2.1 ∈ tblG := ⟨tblG_in (inT5 (List.mem_of_getElem? (i := 192) rfl)) rfl, tblG_in (inP4 (q := (mX11_isLine.2.1, 14)) (List.mem_of_getElem? (i := 11) rfl)) rfl⟩
theorem s_11_191 : e_siteV 11 191 mX11_isLine 11 := ⟨tblG_in (inT5 (List.mem_of_getElem? (i := 190) rfl)) rfl, sel_X11_isLine.1, sel_X11_isLine.2, rfl⟩
theorem d_X11_isLine_0 : decode mX11_isLine.2.2.1 0 = .ok (.iload_n 1, 1) := by decide +kernel
theorem d_X11_isLine_1 : decode mX11_isLine.2.2.1 1 = .ok (.ifCond .lt 21, 3) := by decide +kernel
theorem d_X11_isLine_22 : decode mX11_isLine.2.2.1 22 = .ok (.iconst 0, 1) := by decide +kernel
theorem d_X11_isLine_23 : decode mX11_isLine.2.2.1 23 = .ok (.ireturn, 1) := by decide +kernel
theorem d_X11_isLine_4 : decode mX11_isLine.2.2.1 4 = .ok (.iload_n 1, 1) := by decide +kernel
theorem d_X11_isLine_5 : decode mX11_isLine.2.2.1 5 = .ok (.aload_n 0, 1) := by decide +kernel
theorem d_X11_isLine_6 : decode mX11_isLine.2.2.1 6 = .ok (.getfield 30, 3) := by decide +kernel
theorem d_X11_isLine_9 : decode mX11_isLine.2.2.1 9 = .ok (.getfield 115, 3) := by decide +kernel
theorem d_X11_isLine_12 : decode mX11_isLine.2.2.1 12 = .ok (.getfield 119, 3) := by decide +kernel
theorem d_X11_isLine_15 : decode mX11_isLine.2.2.1 15 = .ok (.if_icmp .ge 7, 3) := by decide +kernel
theorem d_X11_isLine_18 : decode mX11_isLine.2.2.1 18 = .ok (.iconst 1, 1) := by decide +kernel
theorem d_X11_isLine_19 : decode mX11_isLine.2.2.1 19 = .ok (.goto 4, 3) := by decide +kernel
theorem ok_X11_isLine : e_m mX11_isLine 1 := ⟨tblG_in (inT5 (List.mem_of_getElem? (i := 193) rfl)) rfl, plainFor_of_name (by decide), rfl, ini_11, by decide +kernel, by decide⟩
theorem d_X11_pays_39 : decode mX11_pays.2.2.1 39 = .ok (.ifCond .ne 5, 3) := by decide +kernel
theorem d_X11_pays_44 : decode mX11_pays.2.2.1 44 = .ok (.iload_n 2, 1) := by decide +kernel
theorem d_X11_pays_45 : decode mX11_pays.2.2.1 45 = .ok (.ifCond .ne 17, 3) := by decide +kernel
theorem d_X11_pays_62 : decode mX11_pays.2.2.1 62 = .ok (.aload_n 0, 1) := by decide +kernel
theorem d_X11_pays_63 : decode mX11_pays.2.2.1 63 = .ok (.getfield 46, 3) := by decide +kernel
theorem d_X11_pays_66 : decode mX11_pays.2.2.1 66 = .ok (.getfield 178, 3) := by decide +kernel
theorem d_X11_pays_69 : decode mX11_pays.2.2.1 69 = .ok (.iload_n 1, 1) := by decide +kernel
theorem d_X11_pays_70 : decode mX11_pays.2.2.1 70 = .ok (.invokevirtual 198, 3) := by decide +kernel
def mX1_paysInParts : MD := (1, yX1_paysInParts, cX1_paysInParts, 5, some .int)
theorem sel_X1_paysInParts : Cond.instanceMethod mX1_paysInParts.2.1 ∈ tblG ∧ Cond.selects mX1_paysInParts.2.1.cls mX1_paysInParts.2.1 mX1_paysInParts.2.1 ∈ tblG := ⟨tblG_in (inT5 (List.mem_of_getElem? (i := 199) rfl)) rfl, tblG_in (inT5 (List.mem_of_getElem? (i := 200) rfl)) rfl⟩
theorem s_11_198 : e_siteV 11 198 mX1_paysInParts 1 := ⟨tblG_in (inT5 (List.mem_of_getElem? (i := 198) rfl)) rfl, sel_X1_paysInParts.1, sel_X1_paysInParts.2, rfl⟩
theorem d_X1_paysInParts_0 : decode mX1_paysInParts.2.2.1 0 = .ok (.aload_n 0, 1) := by decide +kernel
theorem d_X1_paysInParts_1 : decode mX1_paysInParts.2.2.1 1 = .ok (.getfield 21, 3) := by decide +kernel
theorem d_X1_paysInParts_4 : decode mX1_paysInParts.2.2.1 4 = .ok (.iload_n 1, 1) := by decide +kernel
theorem d_X1_paysInParts_5 : decode mX1_paysInParts.2.2.1 5 = .ok (.iaload, 1) := by decide +kernel
theorem d_X1_paysInParts_6 : decode mX1_paysInParts.2.2.1 6 = .ok (.istore_n 2, 1) := by decide +kernel
theorem d_X1_paysInParts_7 : decode mX1_paysInParts.2.2.1 7 = .ok (.iconst 0, 1) := by decide +kernel
theorem d_X1_paysInParts_8 : decode mX1_paysInParts.2.2.1 8 = .ok (.istore_n 3, 1) := by decide +kernel
theorem d_X1_paysInParts_9 : decode mX1_paysInParts.2.2.1 9 = .ok (.iload_n 3, 1) := by decide +kernel
theorem d_X1_paysInParts_10 : decode mX1_paysInParts.2.2.1 10 = .ok (.aload_n 0, 1) := by decide +kernel
theorem d_X1_paysInParts_11 : decode mX1_paysInParts.2.2.1 11 = .ok (.getfield 33, 3) := by decide +kernel
theorem d_X1_paysInParts_14 : decode mX1_paysInParts.2.2.1 14 = .ok (.getfield 94, 3) := by decide +kernel
theorem f_1_94 : e_fld 1 94 8 0 12 0 false := ⟨RX8, TX8, 0, rfl, rfl, by decide, rfl, rfl, rfl, iX8, tblG_in (inT2 (List.mem_of_getElem? (i := 11) rfl)) rfl, tyX8_ok, nmX8⟩
theorem d_X1_paysInParts_17 : decode mX1_paysInParts.2.2.1 17 = .ok (.if_icmp .ge 78, 3) := by decide +kernel
theorem d_X1_paysInParts_95 : decode mX1_paysInParts.2.2.1 95 = .ok (.iload_n 2, 1) := by decide +kernel
theorem d_X1_paysInParts_96 : decode mX1_paysInParts.2.2.1 96 = .ok (.ireturn, 1) := by decide +kernel
theorem d_X1_paysInParts_20 : decode mX1_paysInParts.2.2.1 20 = .ok (.aload_n 0, 1) := by decide +kernel
theorem d_X1_paysInParts_21 : decode mX1_paysInParts.2.2.1 21 = .ok (.getfield 33, 3) := by decide +kernel
theorem d_X1_paysInParts_24 : decode mX1_paysInParts.2.2.1 24 = .ok (.getfield 97, 3) := by decide +kernel
theorem f_1_97 : e_fld 1 97 8 5 12 2 false := ⟨RX8, TX8, 5, rfl, rfl, by decide, rfl, rfl, rfl, iX8, tblG_in (inT2 (List.mem_of_getElem? (i := 26) rfl)) rfl, tyX8_ok, nmX8⟩
theorem d_X1_paysInParts_27 : decode mX1_paysInParts.2.2.1 27 = .ok (.iload_n 3, 1) := by decide +kernel
theorem d_X1_paysInParts_28 : decode mX1_paysInParts.2.2.1 28 = .ok (.laload, 1) := by decide +kernel
theorem d_X1_paysInParts_29 : decode mX1_paysInParts.2.2.1 29 = .ok (.iload_n 1, 1) := by decide +kernel
theorem d_X1_paysInParts_30 : decode mX1_paysInParts.2.2.1 30 = .ok (.lshr, 1) := by decide +kernel
theorem d_X1_paysInParts_31 : decode mX1_paysInParts.2.2.1 31 = .ok (.lconst 1, 1) := by decide +kernel
theorem d_X1_paysInParts_32 : decode mX1_paysInParts.2.2.1 32 = .ok (.land, 1) := by decide +kernel
theorem d_X1_paysInParts_33 : decode mX1_paysInParts.2.2.1 33 = .ok (.lconst 1, 1) := by decide +kernel
theorem d_X1_paysInParts_34 : decode mX1_paysInParts.2.2.1 34 = .ok (.lcmp, 1) := by decide +kernel
theorem d_X1_paysInParts_35 : decode mX1_paysInParts.2.2.1 35 = .ok (.ifCond .ne 54, 3) := by decide +kernel
theorem d_X1_paysInParts_38 : decode mX1_paysInParts.2.2.1 38 = .ok (.aload_n 0, 1) := by decide +kernel
theorem d_X1_paysInParts_39 : decode mX1_paysInParts.2.2.1 39 = .ok (.getfield 33, 3) := by decide +kernel
theorem d_X1_paysInParts_42 : decode mX1_paysInParts.2.2.1 42 = .ok (.getfield 101, 3) := by decide +kernel
theorem f_1_101 : e_fld 1 101 8 4 12 2 false := ⟨RX8, TX8, 4, rfl, rfl, by decide, rfl, rfl, rfl, iX8, tblG_in (inT2 (List.mem_of_getElem? (i := 22) rfl)) rfl, tyX8_ok, nmX8⟩
theorem d_X1_paysInParts_45 : decode mX1_paysInParts.2.2.1 45 = .ok (.iload_n 3, 1) := by decide +kernel
theorem d_X1_paysInParts_46 : decode mX1_paysInParts.2.2.1 46 = .ok (.iaload, 1) := by decide +kernel
theorem d_X1_paysInParts_47 : decode mX1_paysInParts.2.2.1 47 = .ok (.aload_n 0, 1) := by decide +kernel
theorem d_X1_paysInParts_48 : decode mX1_paysInParts.2.2.1 48 = .ok (.getfield 41, 3) := by decide +kernel
theorem f_1_41 : e_fld 1 41 1 1 9 2 false := ⟨RX1, TX1, 1, rfl, rfl, by decide, rfl, rfl, rfl, iX1, tblG_in (inT2 (List.mem_of_getElem? (i := 67) rfl)) rfl, tyX1_ok, nmX1⟩
theorem d_X1_paysInParts_51 : decode mX1_paysInParts.2.2.1 51 = .ok (.getfield 71, 3) := by decide +kernel
theorem f_1_71 : e_fld 1 71 3 5 12 2 true := ⟨RX3, TX3, 5, rfl, rfl, by decide, rfl, rfl, rfl, iX3, tblG_in (inT1 (List.mem_of_getElem? (i := 181) rfl)) rfl, tyX3_ok, nmX3⟩
theorem d_X1_paysInParts_54 : decode mX1_paysInParts.2.2.1 54 = .ok (.aload_n 0, 1) := by decide +kernel
theorem d_X1_paysInParts_55 : decode mX1_paysInParts.2.2.1 55 = .ok (.getfield 33, 3) := by decide +kernel
theorem d_X1_paysInParts_58 : decode mX1_paysInParts.2.2.1 58 = .ok (.getfield 104, 3) := by decide +kernel
theorem f_1_104 : e_fld 1 104 8 1 12 2 false := ⟨RX8, TX8, 1, rfl, rfl, by decide, rfl, rfl, rfl, iX8, tblG_in (inT2 (List.mem_of_getElem? (i := 14) rfl)) rfl, tyX8_ok, nmX8⟩
theorem d_X1_paysInParts_61 : decode mX1_paysInParts.2.2.1 61 = .ok (.iload_n 3, 1) := by decide +kernel
theorem d_X1_paysInParts_62 : decode mX1_paysInParts.2.2.1 62 = .ok (.iaload, 1) := by decide +kernel
theorem d_X1_paysInParts_63 : decode mX1_paysInParts.2.2.1 63 = .ok (.iconst 4, 1) := by decide +kernel
theorem d_X1_paysInParts_64 : decode mX1_paysInParts.2.2.1 64 = .ok (.imul, 1) := by decide +kernel
theorem d_X1_paysInParts_65 : decode mX1_paysInParts.2.2.1 65 = .ok (.iconst 2, 1) := by decide +kernel
theorem d_X1_paysInParts_66 : decode mX1_paysInParts.2.2.1 66 = .ok (.iadd, 1) := by decide +kernel
theorem d_X1_paysInParts_67 : decode mX1_paysInParts.2.2.1 67 = .ok (.iaload, 1) := by decide +kernel
theorem d_X1_paysInParts_68 : decode mX1_paysInParts.2.2.1 68 = .ok (.imul, 1) := by decide +kernel
theorem d_X1_paysInParts_69 : decode mX1_paysInParts.2.2.1 69 = .ok (.istore 4, 2) := by decide +kernel
theorem d_X1_paysInParts_71 : decode mX1_paysInParts.2.2.1 71 = .ok (.iload_n 2, 1) := by decide +kernel
theorem d_X1_paysInParts_72 : decode mX1_paysInParts.2.2.1 72 = .ok (.iload 4, 2) := by decide +kernel
theorem d_X1_paysInParts_74 : decode mX1_paysInParts.2.2.1 74 = .ok (.aload_n 0, 1) := by decide +kernel
theorem d_X1_paysInParts_75 : decode mX1_paysInParts.2.2.1 75 = .ok (.getfield 33, 3) := by decide +kernel
theorem d_X1_paysInParts_78 : decode mX1_paysInParts.2.2.1 78 = .ok (.getfield 97, 3) := by decide +kernel
theorem d_X1_paysInParts_81 : decode mX1_paysInParts.2.2.1 81 = .ok (.iload_n 3, 1) := by decide +kernel
theorem d_X1_paysInParts_82 : decode mX1_paysInParts.2.2.1 82 = .ok (.laload, 1) := by decide +kernel
theorem d_X1_paysInParts_83 : decode mX1_paysInParts.2.2.1 83 = .ok (.iload_n 1, 1) := by decide +kernel
theorem d_X1_paysInParts_84 : decode mX1_paysInParts.2.2.1 84 = .ok (.invokestatic 107, 3) := by decide +kernel
def mX1_part : MD := (1, yX1_part, cX1_part, 6, some .int)
theorem s_1_107 : e_siteS 1 107 mX1_part := ⟨tblG_in (inT5 (List.mem_of_getElem? (i := 202) rfl)) rfl, tblG_in (inT5 (List.mem_of_getElem? (i := 203) rfl)) rfl⟩
theorem d_X1_part_0 : decode mX1_part.2.2.1 0 = .ok (.lload_n 1, 1) := by decide +kernel
theorem d_X1_part_1 : decode mX1_part.2.2.1 1 = .ok (.invokestatic 111, 3) := by decide +kernel
def mJ13_bitCount_95d88 : MD := (17, yJ13_bitCount_95d88, cJ13_bitCount_95d88, 2, some .int)
theorem s_1_111 : e_siteS 1 111 mJ13_bitCount_95d88 := ⟨tblG_in (inT5 (List.mem_of_getElem? (i := 205) rfl)) rfl, tblG_in (inT5 (List.mem_of_getElem? (i := 206) rfl)) rfl⟩
theorem d_J13_bitCount_95d88_0 : decode mJ13_bitCount_95d88.2.2.1 0 = .ok (.lload_n 0, 1) := by decide +kernel
theorem d_J13_bitCount_95d88_1 : decode mJ13_bitCount_95d88.2.2.1 1 = .ok (.lload_n 0, 1) := by decide +kernel
theorem d_J13_bitCount_95d88_2 : decode mJ13_bitCount_95d88.2.2.1 2 = .ok (.iconst 1, 1) := by decide +kernel
theorem d_J13_bitCount_95d88_3 : decode mJ13_bitCount_95d88.2.2.1 3 = .ok (.lushr, 1) := by decide +kernel
theorem d_J13_bitCount_95d88_4 : decode mJ13_bitCount_95d88.2.2.1 4 = .ok (.ldc2_w 314, 3) := by decide +kernel
theorem kl_17_314 : Jvm.Cond.constantLong (e_cn 17) 314 (Int64.ofInt 6148914691236517205) ∈ tblG := tblG_in (inT5 (List.mem_of_getElem? (i := 208) rfl)) rfl
theorem d_J13_bitCount_95d88_7 : decode mJ13_bitCount_95d88.2.2.1 7 = .ok (.land, 1) := by decide +kernel
theorem d_J13_bitCount_95d88_8 : decode mJ13_bitCount_95d88.2.2.1 8 = .ok (.lsub, 1) := by decide +kernel
theorem d_J13_bitCount_95d88_9 : decode mJ13_bitCount_95d88.2.2.1 9 = .ok (.lstore_n 0, 1) := by decide +kernel
theorem d_J13_bitCount_95d88_10 : decode mJ13_bitCount_95d88.2.2.1 10 = .ok (.lload_n 0, 1) := by decide +kernel
theorem d_J13_bitCount_95d88_11 : decode mJ13_bitCount_95d88.2.2.1 11 = .ok (.ldc2_w 316, 3) := by decide +kernel
theorem kl_17_316 : Jvm.Cond.constantLong (e_cn 17) 316 (Int64.ofInt 3689348814741910323) ∈ tblG := tblG_in (inT5 (List.mem_of_getElem? (i := 209) rfl)) rfl
theorem d_J13_bitCount_95d88_14 : decode mJ13_bitCount_95d88.2.2.1 14 = .ok (.land, 1) := by decide +kernel
theorem d_J13_bitCount_95d88_15 : decode mJ13_bitCount_95d88.2.2.1 15 = .ok (.lload_n 0, 1) := by decide +kernel
theorem d_J13_bitCount_95d88_16 : decode mJ13_bitCount_95d88.2.2.1 16 = .ok (.iconst 2, 1) := by decide +kernel
theorem d_J13_bitCount_95d88_17 : decode mJ13_bitCount_95d88.2.2.1 17 = .ok (.lushr, 1) := by decide +kernel
theorem d_J13_bitCount_95d88_18 : decode mJ13_bitCount_95d88.2.2.1 18 = .ok (.ldc2_w 316, 3) := by decide +kernel
theorem d_J13_bitCount_95d88_21 : decode mJ13_bitCount_95d88.2.2.1 21 = .ok (.land, 1) := by decide +kernel
theorem d_J13_bitCount_95d88_22 : decode mJ13_bitCount_95d88.2.2.1 22 = .ok (.ladd, 1) := by decide +kernel
theorem d_J13_bitCount_95d88_23 : decode mJ13_bitCount_95d88.2.2.1 23 = .ok (.lstore_n 0, 1) := by decide +kernel
theorem d_J13_bitCount_95d88_24 : decode mJ13_bitCount_95d88.2.2.1 24 = .ok (.lload_n 0, 1) := by decide +kernel
theorem d_J13_bitCount_95d88_25 : decode mJ13_bitCount_95d88.2.2.1 25 = .ok (.lload_n 0, 1) := by decide +kernel
theorem d_J13_bitCount_95d88_26 : decode mJ13_bitCount_95d88.2.2.1 26 = .ok (.iconst 4, 1) := by decide +kernel
theorem d_J13_bitCount_95d88_27 : decode mJ13_bitCount_95d88.2.2.1 27 = .ok (.lushr, 1) := by decide +kernel
theorem d_J13_bitCount_95d88_28 : decode mJ13_bitCount_95d88.2.2.1 28 = .ok (.ladd, 1) := by decide +kernel
theorem d_J13_bitCount_95d88_29 : decode mJ13_bitCount_95d88.2.2.1 29 = .ok (.ldc2_w 318, 3) := by decide +kernel
theorem kl_17_318 : Jvm.Cond.constantLong (e_cn 17) 318 (Int64.ofInt 1085102592571150095) ∈ tblG := tblG_in (inT5 (List.mem_of_getElem? (i := 210) rfl)) rfl
theorem d_J13_bitCount_95d88_32 : decode mJ13_bitCount_95d88.2.2.1 32 = .ok (.land, 1) := by decide +kernel
theorem d_J13_bitCount_95d88_33 : decode mJ13_bitCount_95d88.2.2.1 33 = .ok (.lstore_n 0, 1) := by decide +kernel
theorem d_J13_bitCount_95d88_34 : decode mJ13_bitCount_95d88.2.2.1 34 = .ok (.lload_n 0, 1) := by decide +kernel
theorem d_J13_bitCount_95d88_35 : decode mJ13_bitCount_95d88.2.2.1 35 = .ok (.lload_n 0, 1) := by decide +kernel
theorem d_J13_bitCount_95d88_36 : decode mJ13_bitCount_95d88.2.2.1 36 = .ok (.bipush 8, 2) := by decide +kernel
theorem d_J13_bitCount_95d88_38 : decode mJ13_bitCount_95d88.2.2.1 38 = .ok (.lushr, 1) := by decide +kernel
theorem d_J13_bitCount_95d88_39 : decode mJ13_bitCount_95d88.2.2.1 39 = .ok (.ladd, 1) := by decide +kernel
theorem d_J13_bitCount_95d88_40 : decode mJ13_bitCount_95d88.2.2.1 40 = .ok (.lstore_n 0, 1) := by decide +kernel
theorem d_J13_bitCount_95d88_41 : decode mJ13_bitCount_95d88.2.2.1 41 = .ok (.lload_n 0, 1) := by decide +kernel
theorem d_J13_bitCount_95d88_42 : decode mJ13_bitCount_95d88.2.2.1 42 = .ok (.lload_n 0, 1) := by decide +kernel
theorem d_J13_bitCount_95d88_43 : decode mJ13_bitCount_95d88.2.2.1 43 = .ok (.bipush 16, 2) := by decide +kernel
theorem d_J13_bitCount_95d88_45 : decode mJ13_bitCount_95d88.2.2.1 45 = .ok (.lushr, 1) := by decide +kernel
theorem d_J13_bitCount_95d88_46 : decode mJ13_bitCount_95d88.2.2.1 46 = .ok (.ladd, 1) := by decide +kernel
theorem d_J13_bitCount_95d88_47 : decode mJ13_bitCount_95d88.2.2.1 47 = .ok (.lstore_n 0, 1) := by decide +kernel
theorem d_J13_bitCount_95d88_48 : decode mJ13_bitCount_95d88.2.2.1 48 = .ok (.lload_n 0, 1) := by decide +kernel
theorem d_J13_bitCount_95d88_49 : decode mJ13_bitCount_95d88.2.2.1 49 = .ok (.lload_n 0, 1) := by decide +kernel
theorem d_J13_bitCount_95d88_50 : decode mJ13_bitCount_95d88.2.2.1 50 = .ok (.bipush 32, 2) := by decide +kernel
theorem d_J13_bitCount_95d88_52 : decode mJ13_bitCount_95d88.2.2.1 52 = .ok (.lushr, 1) := by decide +kernel
theorem d_J13_bitCount_95d88_53 : decode mJ13_bitCount_95d88.2.2.1 53 = .ok (.ladd, 1) := by decide +kernel
theorem d_J13_bitCount_95d88_54 : decode mJ13_bitCount_95d88.2.2.1 54 = .ok (.lstore_n 0, 1) := by decide +kernel
theorem d_J13_bitCount_95d88_55 : decode mJ13_bitCount_95d88.2.2.1 55 = .ok (.lload_n 0, 1) := by decide +kernel
theorem d_J13_bitCount_95d88_56 : decode mJ13_bitCount_95d88.2.2.1 56 = .ok (.l2i, 1) := by decide +kernel
theorem d_J13_bitCount_95d88_57 : decode mJ13_bitCount_95d88.2.2.1 57 = .ok (.bipush 127, 2) := by decide +kernel
theorem d_J13_bitCount_95d88_59 : decode mJ13_bitCount_95d88.2.2.1 59 = .ok (.iand, 1) := by decide +kernel
theorem d_J13_bitCount_95d88_60 : decode mJ13_bitCount_95d88.2.2.1 60 = .ok (.ireturn, 1) := by decide +kernel
theorem ini_17 : Cond.initialized "java/lang/Long" ∈ tblG := tblG_in (inT1 (List.mem_of_getElem? (i := 22) rfl)) rfl
theorem ok_J13_bitCount_95d88 : e_m mJ13_bitCount_95d88 1 := ⟨tblG_in (inT5 (List.mem_of_getElem? (i := 207) rfl)) rfl, plainFor_of_name (by decide), rfl, ini_17, by decide +kernel, by decide⟩
theorem d_X1_part_4 : decode mX1_part.2.2.1 4 = .ok (.istore 4, 2) := by decide +kernel
theorem d_X1_part_6 : decode mX1_part.2.2.1 6 = .ok (.lload_n 1, 1) := by decide +kernel
theorem d_X1_part_7 : decode mX1_part.2.2.1 7 = .ok (.lconst 1, 1) := by decide +kernel
theorem d_X1_part_8 : decode mX1_part.2.2.1 8 = .ok (.iload_n 3, 1) := by decide +kernel
theorem d_X1_part_9 : decode mX1_part.2.2.1 9 = .ok (.lshl, 1) := by decide +kernel
theorem d_X1_part_10 : decode mX1_part.2.2.1 10 = .ok (.lconst 1, 1) := by decide +kernel
theorem d_X1_part_11 : decode mX1_part.2.2.1 11 = .ok (.lsub, 1) := by decide +kernel
theorem d_X1_part_12 : decode mX1_part.2.2.1 12 = .ok (.land, 1) := by decide +kernel
theorem d_X1_part_13 : decode mX1_part.2.2.1 13 = .ok (.invokestatic 111, 3) := by decide +kernel
theorem d_X1_part_16 : decode mX1_part.2.2.1 16 = .ok (.istore 5, 2) := by decide +kernel
theorem d_X1_part_18 : decode mX1_part.2.2.1 18 = .ok (.iload 4, 2) := by decide +kernel
theorem d_X1_part_20 : decode mX1_part.2.2.1 20 = .ok (.ifCond .ne 5, 3) := by decide +kernel
theorem d_X1_part_25 : decode mX1_part.2.2.1 25 = .ok (.iload_n 0, 1) := by decide +kernel
theorem d_X1_part_26 : decode mX1_part.2.2.1 26 = .ok (.iload 4, 2) := by decide +kernel
theorem d_X1_part_28 : decode mX1_part.2.2.1 28 = .ok (.idiv, 1) := by decide +kernel
theorem d_X1_part_29 : decode mX1_part.2.2.1 29 = .ok (.iload 5, 2) := by decide +kernel
theorem d_X1_part_31 : decode mX1_part.2.2.1 31 = .ok (.iload_n 0, 1) := by decide +kernel
theorem d_X1_part_32 : decode mX1_part.2.2.1 32 = .ok (.iload 4, 2) := by decide +kernel
theorem d_X1_part_34 : decode mX1_part.2.2.1 34 = .ok (.irem, 1) := by decide +kernel
theorem d_X1_part_35 : decode mX1_part.2.2.1 35 = .ok (.if_icmp .ge 7, 3) := by decide +kernel
theorem d_X1_part_42 : decode mX1_part.2.2.1 42 = .ok (.iconst 0, 1) := by decide +kernel
theorem d_X1_part_43 : decode mX1_part.2.2.1 43 = .ok (.iadd, 1) := by decide +kernel
theorem d_X1_part_44 : decode mX1_part.2.2.1 44 = .ok (.ireturn, 1) := by decide +kernel
theorem d_X1_part_38 : decode mX1_part.2.2.1 38 = .ok (.iconst 1, 1) := by decide +kernel
theorem d_X1_part_39 : decode mX1_part.2.2.1 39 = .ok (.goto 4, 3) := by decide +kernel
theorem d_X1_part_23 : decode mX1_part.2.2.1 23 = .ok (.iconst 0, 1) := by decide +kernel
theorem d_X1_part_24 : decode mX1_part.2.2.1 24 = .ok (.ireturn, 1) := by decide +kernel
theorem ok_X1_part : e_m mX1_part 3 := ⟨tblG_in (inT5 (List.mem_of_getElem? (i := 204) rfl)) rfl, plainFor_of_name (by decide), rfl, ini_1, by decide +kernel, by decide⟩
theorem d_X1_paysInParts_87 : decode mX1_paysInParts.2.2.1 87 = .ok (.iadd, 1) := by decide +kernel
theorem d_X1_paysInParts_88 : decode mX1_paysInParts.2.2.1 88 = .ok (.istore_n 2, 1) := by decide +kernel
