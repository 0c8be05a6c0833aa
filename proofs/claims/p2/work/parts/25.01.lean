theorem d_X11_put_52 : decode mX11_put.2.2.1 52 = .ok (.iload_n 2, 1) := by decide +kernel
theorem d_X11_put_53 : decode mX11_put.2.2.1 53 = .ok (.iastore, 1) := by decide +kernel
theorem d_X11_put_54 : decode mX11_put.2.2.1 54 = .ok (.iconst 1, 1) := by decide +kernel
theorem d_X11_put_55 : decode mX11_put.2.2.1 55 = .ok (.ireturn, 1) := by decide +kernel
def mX11_ran : MD := (11, yX11_ran, cX11_ran, 2, some .int)
theorem d_X11_ran_0 : decode mX11_ran.2.2.1 0 = .ok (.aload_n 0, 1) := by decide +kernel
theorem d_X11_ran_1 : decode mX11_ran.2.2.1 1 = .ok (.getfield 109, 3) := by decide +kernel
theorem f_11_109 : e_fld 11 109 11 9 14 3 false := ⟨RX11, TX11, 9, rfl, rfl, by decide, rfl, rfl, rfl, iX11, tblG_in (inT3 (List.mem_of_getElem? (i := 57) rfl)) rfl, tyX11_ok, nmX11⟩
theorem d_X11_ran_4 : decode mX11_ran.2.2.1 4 = .ok (.ifCond .ne 5, 3) := by decide +kernel
theorem d_X11_ran_9 : decode mX11_ran.2.2.1 9 = .ok (.iload_n 1, 1) := by decide +kernel
theorem d_X11_ran_10 : decode mX11_ran.2.2.1 10 = .ok (.tableswitch 86 0 5 #[38, 46, 54, 62, 70, 78], 38) := by decide +kernel
theorem d_X11_ran_96 : decode mX11_ran.2.2.1 96 = .ok (.iconst (-1), 1) := by decide +kernel
theorem d_X11_ran_97 : decode mX11_ran.2.2.1 97 = .ok (.ireturn, 1) := by decide +kernel
theorem d_X11_ran_88 : decode mX11_ran.2.2.1 88 = .ok (.aload_n 0, 1) := by decide +kernel
theorem d_X11_ran_89 : decode mX11_ran.2.2.1 89 = .ok (.getfield 46, 3) := by decide +kernel
theorem d_X11_ran_92 : decode mX11_ran.2.2.1 92 = .ok (.getfield 167, 3) := by decide +kernel
theorem f_11_167 : e_fld 11 167 6 15 18 0 false := ⟨RX6, TX6, 15, rfl, rfl, by decide, rfl, rfl, rfl, iX6, tblG_in (inT2 (List.mem_of_getElem? (i := 124) rfl)) rfl, tyX6_ok, nmX6⟩
theorem d_X11_ran_95 : decode mX11_ran.2.2.1 95 = .ok (.ireturn, 1) := by decide +kernel
theorem d_X11_ran_80 : decode mX11_ran.2.2.1 80 = .ok (.aload_n 0, 1) := by decide +kernel
theorem d_X11_ran_81 : decode mX11_ran.2.2.1 81 = .ok (.getfield 46, 3) := by decide +kernel
theorem d_X11_ran_84 : decode mX11_ran.2.2.1 84 = .ok (.getfield 164, 3) := by decide +kernel
theorem f_11_164 : e_fld 11 164 6 11 18 0 false := ⟨RX6, TX6, 11, rfl, rfl, by decide, rfl, rfl, rfl, iX6, tblG_in (inT2 (List.mem_of_getElem? (i := 116) rfl)) rfl, tyX6_ok, nmX6⟩
theorem d_X11_ran_87 : decode mX11_ran.2.2.1 87 = .ok (.ireturn, 1) := by decide +kernel
theorem d_X11_ran_72 : decode mX11_ran.2.2.1 72 = .ok (.aload_n 0, 1) := by decide +kernel
theorem d_X11_ran_73 : decode mX11_ran.2.2.1 73 = .ok (.getfield 46, 3) := by decide +kernel
theorem d_X11_ran_76 : decode mX11_ran.2.2.1 76 = .ok (.getfield 161, 3) := by decide +kernel
theorem f_11_161 : e_fld 11 161 6 13 18 0 false := ⟨RX6, TX6, 13, rfl, rfl, by decide, rfl, rfl, rfl, iX6, tblG_in (inT2 (List.mem_of_getElem? (i := 120) rfl)) rfl, tyX6_ok, nmX6⟩
theorem d_X11_ran_79 : decode mX11_ran.2.2.1 79 = .ok (.ireturn, 1) := by decide +kernel
theorem d_X11_ran_64 : decode mX11_ran.2.2.1 64 = .ok (.aload_n 0, 1) := by decide +kernel
theorem d_X11_ran_65 : decode mX11_ran.2.2.1 65 = .ok (.getfield 46, 3) := by decide +kernel
theorem d_X11_ran_68 : decode mX11_ran.2.2.1 68 = .ok (.getfield 158, 3) := by decide +kernel
theorem f_11_158 : e_fld 11 158 6 12 18 0 false := ⟨RX6, TX6, 12, rfl, rfl, by decide, rfl, rfl, rfl, iX6, tblG_in (inT2 (List.mem_of_getElem? (i := 118) rfl)) rfl, tyX6_ok, nmX6⟩
theorem d_X11_ran_71 : decode mX11_ran.2.2.1 71 = .ok (.ireturn, 1) := by decide +kernel
theorem d_X11_ran_56 : decode mX11_ran.2.2.1 56 = .ok (.aload_n 0, 1) := by decide +kernel
theorem d_X11_ran_57 : decode mX11_ran.2.2.1 57 = .ok (.getfield 46, 3) := by decide +kernel
theorem d_X11_ran_60 : decode mX11_ran.2.2.1 60 = .ok (.getfield 155, 3) := by decide +kernel
theorem f_11_155 : e_fld 11 155 6 10 18 0 false := ⟨RX6, TX6, 10, rfl, rfl, by decide, rfl, rfl, rfl, iX6, tblG_in (inT2 (List.mem_of_getElem? (i := 114) rfl)) rfl, tyX6_ok, nmX6⟩
theorem d_X11_ran_63 : decode mX11_ran.2.2.1 63 = .ok (.ireturn, 1) := by decide +kernel
theorem d_X11_ran_48 : decode mX11_ran.2.2.1 48 = .ok (.aload_n 0, 1) := by decide +kernel
theorem d_X11_ran_49 : decode mX11_ran.2.2.1 49 = .ok (.getfield 46, 3) := by decide +kernel
theorem d_X11_ran_52 : decode mX11_ran.2.2.1 52 = .ok (.getfield 152, 3) := by decide +kernel
theorem f_11_152 : e_fld 11 152 6 9 18 0 false := ⟨RX6, TX6, 9, rfl, rfl, by decide, rfl, rfl, rfl, iX6, tblG_in (inT2 (List.mem_of_getElem? (i := 111) rfl)) rfl, tyX6_ok, nmX6⟩
theorem d_X11_ran_55 : decode mX11_ran.2.2.1 55 = .ok (.ireturn, 1) := by decide +kernel
theorem d_X11_ran_7 : decode mX11_ran.2.2.1 7 = .ok (.iconst (-1), 1) := by decide +kernel
theorem d_X11_ran_8 : decode mX11_ran.2.2.1 8 = .ok (.ireturn, 1) := by decide +kernel
def mX11_value : MD := (11, yX11_value, cX11_value, 2, some .int)
theorem d_X11_value_0 : decode mX11_value.2.2.1 0 = .ok (.aload_n 0, 1) := by decide +kernel
theorem d_X11_value_1 : decode mX11_value.2.2.1 1 = .ok (.getfield 109, 3) := by decide +kernel
theorem d_X11_value_4 : decode mX11_value.2.2.1 4 = .ok (.ifCond .eq 20, 3) := by decide +kernel
theorem d_X11_value_24 : decode mX11_value.2.2.1 24 = .ok (.ldc 170, 2) := by decide +kernel
theorem k_11_170 : Jvm.Cond.constant (e_cn 11) 170 (Int32.ofInt (-2000000000)) ∈ tblG := tblG_in (inT5 (List.mem_of_getElem? (i := 173) rfl)) rfl
theorem d_X11_value_26 : decode mX11_value.2.2.1 26 = .ok (.ireturn, 1) := by decide +kernel
theorem d_X11_value_7 : decode mX11_value.2.2.1 7 = .ok (.iload_n 1, 1) := by decide +kernel
theorem d_X11_value_8 : decode mX11_value.2.2.1 8 = .ok (.ifCond .lt 16, 3) := by decide +kernel
theorem d_X11_value_11 : decode mX11_value.2.2.1 11 = .ok (.iload_n 1, 1) := by decide +kernel
theorem d_X11_value_12 : decode mX11_value.2.2.1 12 = .ok (.aload_n 0, 1) := by decide +kernel
theorem d_X11_value_13 : decode mX11_value.2.2.1 13 = .ok (.getfield 30, 3) := by decide +kernel
theorem d_X11_value_16 : decode mX11_value.2.2.1 16 = .ok (.getfield 130, 3) := by decide +kernel
theorem d_X11_value_19 : decode mX11_value.2.2.1 19 = .ok (.iconst 2, 1) := by decide +kernel
theorem d_X11_value_20 : decode mX11_value.2.2.1 20 = .ok (.iaload, 1) := by decide +kernel
theorem d_X11_value_21 : decode mX11_value.2.2.1 21 = .ok (.if_icmp .lt 6, 3) := by decide +kernel
theorem d_X11_value_27 : decode mX11_value.2.2.1 27 = .ok (.aload_n 0, 1) := by decide +kernel
theorem d_X11_value_28 : decode mX11_value.2.2.1 28 = .ok (.getfield 46, 3) := by decide +kernel
theorem d_X11_value_31 : decode mX11_value.2.2.1 31 = .ok (.getfield 171, 3) := by decide +kernel
theorem f_11_171 : e_fld 11 171 6 3 18 2 true := ⟨RX6, TX6, 3, rfl, rfl, by decide, rfl, rfl, rfl, iX6, tblG_in (inT2 (List.mem_of_getElem? (i := 104) rfl)) rfl, tyX6_ok, nmX6⟩
theorem d_X11_value_34 : decode mX11_value.2.2.1 34 = .ok (.iload_n 1, 1) := by decide +kernel
theorem d_X11_value_35 : decode mX11_value.2.2.1 35 = .ok (.iaload, 1) := by decide +kernel
theorem d_X11_value_36 : decode mX11_value.2.2.1 36 = .ok (.ireturn, 1) := by decide +kernel
def mX11_spent : MD := (11, yX11_spent, cX11_spent, 3, some .int)
theorem d_X11_spent_0 : decode mX11_spent.2.2.1 0 = .ok (.aload_n 0, 1) := by decide +kernel
theorem d_X11_spent_1 : decode mX11_spent.2.2.1 1 = .ok (.getfield 109, 3) := by decide +kernel
theorem d_X11_spent_4 : decode mX11_spent.2.2.1 4 = .ok (.ifCond .eq 20, 3) := by decide +kernel
theorem d_X11_spent_24 : decode mX11_spent.2.2.1 24 = .ok (.iconst (-1), 1) := by decide +kernel
theorem d_X11_spent_25 : decode mX11_spent.2.2.1 25 = .ok (.ireturn, 1) := by decide +kernel
theorem d_X11_spent_7 : decode mX11_spent.2.2.1 7 = .ok (.aload_n 0, 1) := by decide +kernel
theorem d_X11_spent_8 : decode mX11_spent.2.2.1 8 = .ok (.iload_n 1, 1) := by decide +kernel
theorem d_X11_spent_9 : decode mX11_spent.2.2.1 9 = .ok (.invokevirtual 174, 3) := by decide +kernel
def mX11_isPart : MD := (11, yX11_isPart, cX11_isPart, 2, some .boolean)
theorem sel_X11_isPart : Cond.instanceMethod mX11_isPart.2.1 ∈ tblG ∧ Cond.selects mX11_isPart.2.1.cls mX11_isPart.2.1 mX11_isPart.2.1 ∈ tblG := ⟨tblG_in (inT5 (List.mem_of_getElem? (i := 180) rfl)) rfl, tblG_in (inP4 (q := (mX11_isPart.2.1, 14)) (List.mem_of_getElem? (i := 10) rfl)) rfl⟩
theorem s_11_174 : e_siteV 11 174 mX11_isPart 11 := ⟨tblG_in (inT5 (List.mem_of_getElem? (i := 178) rfl)) rfl, sel_X11_isPart.1, sel_X11_isPart.2, rfl⟩
theorem d_X11_isPart_0 : decode mX11_isPart.2.2.1 0 = .ok (.iload_n 1, 1) := by decide +kernel
theorem d_X11_isPart_1 : decode mX11_isPart.2.2.1 1 = .ok (.ifCond .lt 20, 3) := by decide +kernel
theorem d_X11_isPart_21 : decode mX11_isPart.2.2.1 21 = .ok (.iconst 0, 1) := by decide +kernel
theorem d_X11_isPart_22 : decode mX11_isPart.2.2.1 22 = .ok (.ireturn, 1) := by decide +kernel
theorem d_X11_isPart_4 : decode mX11_isPart.2.2.1 4 = .ok (.iload_n 1, 1) := by decide +kernel
theorem d_X11_isPart_5 : decode mX11_isPart.2.2.1 5 = .ok (.aload_n 0, 1) := by decide +kernel
theorem d_X11_isPart_6 : decode mX11_isPart.2.2.1 6 = .ok (.getfield 30, 3) := by decide +kernel
theorem d_X11_isPart_9 : decode mX11_isPart.2.2.1 9 = .ok (.getfield 130, 3) := by decide +kernel
theorem d_X11_isPart_12 : decode mX11_isPart.2.2.1 12 = .ok (.iconst 0, 1) := by decide +kernel
theorem d_X11_isPart_13 : decode mX11_isPart.2.2.1 13 = .ok (.iaload, 1) := by decide +kernel
theorem d_X11_isPart_14 : decode mX11_isPart.2.2.1 14 = .ok (.if_icmp .ge 7, 3) := by decide +kernel
theorem d_X11_isPart_17 : decode mX11_isPart.2.2.1 17 = .ok (.iconst 1, 1) := by decide +kernel
theorem d_X11_isPart_18 : decode mX11_isPart.2.2.1 18 = .ok (.goto 4, 3) := by decide +kernel
theorem ok_X11_isPart : e_m mX11_isPart 1 := ⟨tblG_in (inT5 (List.mem_of_getElem? (i := 181) rfl)) rfl, plainFor_of_name (by decide), rfl, ini_11, by decide +kernel, by decide⟩
theorem d_X11_spent_12 : decode mX11_spent.2.2.1 12 = .ok (.ifCond .eq 12, 3) := by decide +kernel
theorem d_X11_spent_15 : decode mX11_spent.2.2.1 15 = .ok (.iload_n 2, 1) := by decide +kernel
theorem d_X11_spent_16 : decode mX11_spent.2.2.1 16 = .ok (.ifCond .lt 8, 3) := by decide +kernel
theorem d_X11_spent_19 : decode mX11_spent.2.2.1 19 = .ok (.iload_n 2, 1) := by decide +kernel
theorem d_X11_spent_20 : decode mX11_spent.2.2.1 20 = .ok (.iconst 4, 1) := by decide +kernel
theorem d_X11_spent_21 : decode mX11_spent.2.2.1 21 = .ok (.if_icmp .lt 5, 3) := by decide +kernel
theorem d_X11_spent_26 : decode mX11_spent.2.2.1 26 = .ok (.aload_n 0, 1) := by decide +kernel
theorem d_X11_spent_27 : decode mX11_spent.2.2.1 27 = .ok (.getfield 46, 3) := by decide +kernel
theorem d_X11_spent_30 : decode mX11_spent.2.2.1 30 = .ok (.getfield 178, 3) := by decide +kernel
theorem f_11_178 : e_fld 11 178 6 0 18 2 true := ⟨RX6, TX6, 0, rfl, rfl, by decide, rfl, rfl, rfl, iX6, tblG_in (inT2 (List.mem_of_getElem? (i := 100) rfl)) rfl, tyX6_ok, nmX6⟩
theorem d_X11_spent_33 : decode mX11_spent.2.2.1 33 = .ok (.getfield 182, 3) := by decide +kernel
theorem f_11_182 : e_fld 11 182 1 2 9 2 true := ⟨RX1, TX1, 2, rfl, rfl, by decide, rfl, rfl, rfl, iX1, tblG_in (inT2 (List.mem_of_getElem? (i := 70) rfl)) rfl, tyX1_ok, nmX1⟩
theorem d_X11_spent_36 : decode mX11_spent.2.2.1 36 = .ok (.iload_n 1, 1) := by decide +kernel
theorem d_X11_spent_37 : decode mX11_spent.2.2.1 37 = .ok (.iconst 4, 1) := by decide +kernel
theorem d_X11_spent_38 : decode mX11_spent.2.2.1 38 = .ok (.imul, 1) := by decide +kernel
theorem d_X11_spent_39 : decode mX11_spent.2.2.1 39 = .ok (.iload_n 2, 1) := by decide +kernel
theorem d_X11_spent_40 : decode mX11_spent.2.2.1 40 = .ok (.iadd, 1) := by decide +kernel
theorem d_X11_spent_41 : decode mX11_spent.2.2.1 41 = .ok (.iaload, 1) := by decide +kernel
theorem d_X11_spent_42 : decode mX11_spent.2.2.1 42 = .ok (.ireturn, 1) := by decide +kernel
def mX11_pays : MD := (11, yX11_pays, cX11_pays, 3, some .int)
theorem d_X11_pays_0 : decode mX11_pays.2.2.1 0 = .ok (.aload_n 0, 1) := by decide +kernel
theorem d_X11_pays_1 : decode mX11_pays.2.2.1 1 = .ok (.getfield 109, 3) := by decide +kernel
theorem d_X11_pays_4 : decode mX11_pays.2.2.1 4 = .ok (.ifCond .eq 12, 3) := by decide +kernel
theorem d_X11_pays_16 : decode mX11_pays.2.2.1 16 = .ok (.iconst (-1), 1) := by decide +kernel
theorem d_X11_pays_17 : decode mX11_pays.2.2.1 17 = .ok (.ireturn, 1) := by decide +kernel
theorem d_X11_pays_7 : decode mX11_pays.2.2.1 7 = .ok (.iload_n 2, 1) := by decide +kernel
theorem d_X11_pays_8 : decode mX11_pays.2.2.1 8 = .ok (.ifCond .lt 8, 3) := by decide +kernel
theorem d_X11_pays_11 : decode mX11_pays.2.2.1 11 = .ok (.iload_n 2, 1) := by decide +kernel
theorem d_X11_pays_12 : decode mX11_pays.2.2.1 12 = .ok (.iconst 1, 1) := by decide +kernel
theorem d_X11_pays_13 : decode mX11_pays.2.2.1 13 = .ok (.if_icmp .le 5, 3) := by decide +kernel
theorem d_X11_pays_18 : decode mX11_pays.2.2.1 18 = .ok (.iload_n 1, 1) := by decide +kernel
theorem d_X11_pays_19 : decode mX11_pays.2.2.1 19 = .ok (.iconst (-1), 1) := by decide +kernel
theorem d_X11_pays_20 : decode mX11_pays.2.2.1 20 = .ok (.if_icmp .ne 14, 3) := by decide +kernel
theorem d_X11_pays_34 : decode mX11_pays.2.2.1 34 = .ok (.aload_n 0, 1) := by decide +kernel
theorem d_X11_pays_35 : decode mX11_pays.2.2.1 35 = .ok (.iload_n 1, 1) := by decide +kernel
theorem d_X11_pays_36 : decode mX11_pays.2.2.1 36 = .ok (.invokevirtual 191, 3) := by decide +kernel
def mX11_isLine : MD := (11, yX11_isLine, cX11_isLine, 2, some .boolean)
theorem sel_X11_isLine : Cond.instanceMethod mX11_isLine.2.1 ∈ tblG ∧ Cond.selects mX11_isLine.2.1.cls mX11_isLine.2.1 mX11_isLine.2.1 ∈ tblG := ⟨tblG_in (inT5 (List.mem_of_getElem? (i := 192) rfl)) rfl, tblG_in (inP4 (q := (mX11_isLine.2.1, 14)) (List.mem_of_getElem? (i := 11) rfl)) rfl⟩
theorem s_11_191 : e_siteV 11 191 mX11_isLine 11 := ⟨tblG_in (inT5 (List.mem_of_getElem? (i := 190) rfl)) rfl, sel_X11_isLine.1, sel_X11_isLine.2, rfl⟩
theorem d_X11_isLine_0 : decode mX11_isLine.2.2.1 0 = .ok (.iload_n 1, 1) := by decide +kernel
theorem d_X11_isLine_1 : decode mX11_isLine.2.2.1 1 = .ok (.ifCond .lt 21, 3) := by decide +kernel
theorem d_X11_isLine_22 : decode mX11_isLine.2.2.1 22 = .ok (.iconst 0, 1) := by decide +kernel
theorem d_X11_isLine_23 : decode mX11_isLine.2.2.1 23 = .ok (.ireturn, 1) := by decide +kernel
theorem d_X11_isLine_4 : decode mX11_isLine.2.2.1 4 = .ok (.iload_n 1, 1) := by decide +kernel
theorem d_X11_isLine_5 : decode mX11_isLine.2.2.1 5 = .ok (.aload_n 0, 1) := by decide +kernel
theorem d_X11_isLine_6 : decode mX11_isLine.2.2.1 6 = .ok (.getfield 30, 3) := by decide +kernel
theorem d_X11_isLine_9 : decode mX11_isLine.2.2.1 9 = .ok (.getfield 115, 3) := by decide +kernel
theorem d_X11_isLine_12 : decode mX11_isLine.2.2.1 12 = .ok (.getfield 119, 3) := by decide +kernel
theorem d_X11_isLine_15 : decode mX11_isLine.2.2.1 15 = .ok (.if_icmp .ge 7, 3) := by decide +kernel
theorem d_X11_isLine_18 : decode mX11_isLine.2.2.1 18 = .ok (.iconst 1, 1) := by decide +kernel
theorem d_X11_isLine_19 : decode mX11_isLine.2.2.1 19 = .ok (.goto 4, 3) := by decide +kernel
theorem ok_X11_isLine : e_m mX11_isLine 1 := ⟨tblG_in (inT5 (List.mem_of_getElem? (i := 193) rfl)) rfl, plainFor_of_name (by decide), rfl, ini_11, by decide +kernel, by decide⟩
theorem d_X11_pays_39 : decode mX11_pays.2.2.1 39 = .ok (.ifCond .ne 5, 3) := by decide +kernel
theorem d_X11_pays_44 : decode mX11_pays.2.2.1 44 = .ok (.iload_n 2, 1) := by decide +kernel
theorem d_X11_pays_45 : decode mX11_pays.2.2.1 45 = .ok (.ifCond .ne 17, 3) := by decide +kernel
theorem d_X11_pays_62 : decode mX11_pays.2.2.1 62 = .ok (.aload_n 0, 1) := by decide +kernel
theorem d_X11_pays_63 : decode mX11_pays.2.2.1 63 = .ok (.getfield 46, 3) := by decide +kernel
theorem d_X11_pays_66 : decode mX11_pays.2.2.1 66 = .ok (.getfield 178, 3) := by decide +kernel
theorem d_X11_pays_69 : decode mX11_pays.2.2.1 69 = .ok (.iload_n 1, 1) := by decide +kernel
theorem d_X11_pays_70 : decode mX11_pays.2.2.1 70 = .ok (.invokevirtual 198, 3) := by decide +kernel
def mX1_paysInParts : MD := (1, yX1_paysInParts, cX1_paysInParts, 5, some .int)
theorem sel_X1_paysInParts : Cond.instanceMethod mX1_paysInParts.2.1 ∈ tblG ∧ Cond.selects mX1_paysInParts.2.1.cls mX1_paysInParts.2.1 mX1_paysInParts.2.1 ∈ tblG := ⟨tblG_in (inT5 (List.mem_of_getElem? (i := 199) rfl)) rfl, tblG_in (inT5 (List.mem_of_getElem? (i := 200) rfl)) rfl⟩
theorem s_11_198 : e_siteV 11 198 mX1_paysInParts 1 := ⟨tblG_in (inT5 (List.mem_of_getElem? (i := 198) rfl)) rfl, sel_X1_paysInParts.1, sel_X1_paysInParts.2, rfl⟩
theorem d_X1_paysInParts_0 : decode mX1_paysInParts.2.2.1 0 = .ok (.aload_n 0, 1) := by decide +kernel
theorem d_X1_paysInParts_1 : decode mX1_paysInParts.2.2.1 1 = .ok (.getfield 21, 3) := by decide +kernel
theorem d_X1_paysInParts_4 : decode mX1_paysInParts.2.2.1 4 = .ok (.iload_n 1, 1) := by decide +kernel
theorem d_X1_paysInParts_5 : decode mX1_paysInParts.2.2.1 5 = .ok (.iaload, 1) := by decide +kernel
theorem d_X1_paysInParts_6 : decode mX1_paysInParts.2.2.1 6 = .ok (.istore_n 2, 1) := by decide +kernel
theorem d_X1_paysInParts_7 : decode mX1_paysInParts.2.2.1 7 = .ok (.iconst 0, 1) := by decide +kernel
theorem d_X1_paysInParts_8 : decode mX1_paysInParts.2.2.1 8 = .ok (.istore_n 3, 1) := by decide +kernel
theorem d_X1_paysInParts_9 : decode mX1_paysInParts.2.2.1 9 = .ok (.iload_n 3, 1) := by decide +kernel
theorem d_X1_paysInParts_10 : decode mX1_paysInParts.2.2.1 10 = .ok (.aload_n 0, 1) := by decide +kernel
theorem d_X1_paysInParts_11 : decode mX1_paysInParts.2.2.1 11 = .ok (.getfield 33, 3) := by decide +kernel
theorem d_X1_paysInParts_14 : decode mX1_paysInParts.2.2.1 14 = .ok (.getfield 94, 3) := by decide +kernel
theorem f_1_94 : e_fld 1 94 8 0 12 0 false := ⟨RX8, TX8, 0, rfl, rfl, by decide, rfl, rfl, rfl, iX8, tblG_in (inT2 (List.mem_of_getElem? (i := 11) rfl)) rfl, tyX8_ok, nmX8⟩
theorem d_X1_paysInParts_17 : decode mX1_paysInParts.2.2.1 17 = .ok (.if_icmp .ge 78, 3) := by decide +kernel
theorem d_X1_paysInParts_95 : decode mX1_paysInParts.2.2.1 95 = .ok (.iload_n 2, 1) := by decide +kernel
theorem d_X1_paysInParts_96 : decode mX1_paysInParts.2.2.1 96 = .ok (.ireturn, 1) := by decide +kernel
theorem d_X1_paysInParts_20 : decode mX1_paysInParts.2.2.1 20 = .ok (.aload_n 0, 1) := by decide +kernel
theorem d_X1_paysInParts_21 : decode mX1_paysInParts.2.2.1 21 = .ok (.getfield 33, 3) := by decide +kernel
theorem d_X1_paysInParts_24 : decode mX1_paysInParts.2.2.1 24 = .ok (.getfield 97, 3) := by decide +kernel
theorem f_1_97 : e_fld 1 97 8 5 12 2 false := ⟨RX8, TX8, 5, rfl, rfl, by decide, rfl, rfl, rfl, iX8, tblG_in (inT2 (List.mem_of_getElem? (i := 26) rfl)) rfl, tyX8_ok, nmX8⟩
def mX11_stretches : MD := (11, yX11_stretches, cX11_stretches, 2, some .int)
theorem d_X11_stretches_0 : decode mX11_stretches.2.2.1 0 = .ok (.aload_n 0, 1) := by decide +kernel
theorem d_X11_stretches_1 : decode mX11_stretches.2.2.1 1 = .ok (.getfield 109, 3) := by decide +kernel
theorem d_X11_stretches_4 : decode mX11_stretches.2.2.1 4 = .ok (.ifCond .eq 11, 3) := by decide +kernel
theorem d_X11_stretches_15 : decode mX11_stretches.2.2.1 15 = .ok (.iconst (-1), 1) := by decide +kernel
theorem d_X11_stretches_16 : decode mX11_stretches.2.2.1 16 = .ok (.ireturn, 1) := by decide +kernel
theorem d_X11_stretches_7 : decode mX11_stretches.2.2.1 7 = .ok (.aload_n 0, 1) := by decide +kernel
theorem d_X11_stretches_8 : decode mX11_stretches.2.2.1 8 = .ok (.iload_n 1, 1) := by decide +kernel
theorem d_X11_stretches_9 : decode mX11_stretches.2.2.1 9 = .ok (.invokevirtual 174, 3) := by decide +kernel
theorem d_X11_stretches_12 : decode mX11_stretches.2.2.1 12 = .ok (.ifCond .ne 5, 3) := by decide +kernel
theorem d_X11_stretches_17 : decode mX11_stretches.2.2.1 17 = .ok (.aload_n 0, 1) := by decide +kernel
theorem d_X11_stretches_18 : decode mX11_stretches.2.2.1 18 = .ok (.getfield 46, 3) := by decide +kernel
theorem d_X11_stretches_21 : decode mX11_stretches.2.2.1 21 = .ok (.getfield 178, 3) := by decide +kernel
theorem d_X11_stretches_24 : decode mX11_stretches.2.2.1 24 = .ok (.getfield 201, 3) := by decide +kernel
theorem f_11_201 : e_fld 11 201 1 8 9 2 true := ⟨RX1, TX1, 8, rfl, rfl, by decide, rfl, rfl, rfl, iX1, tblG_in (inT2 (List.mem_of_getElem? (i := 78) rfl)) rfl, tyX1_ok, nmX1⟩
theorem d_X11_stretches_27 : decode mX11_stretches.2.2.1 27 = .ok (.iload_n 1, 1) := by decide +kernel
theorem d_X11_stretches_28 : decode mX11_stretches.2.2.1 28 = .ok (.invokevirtual 205, 3) := by decide +kernel
def mX8_countOf : MD := (8, yX8_countOf, cX8_countOf, 4, some .int)
theorem sel_X8_countOf : Cond.instanceMethod mX8_countOf.2.1 ∈ tblG ∧ Cond.selects mX8_countOf.2.1.cls mX8_countOf.2.1 mX8_countOf.2.1 ∈ tblG := ⟨tblG_in (inT5 (List.mem_of_getElem? (i := 216) rfl)) rfl, tblG_in (inT5 (List.mem_of_getElem? (i := 217) rfl)) rfl⟩
theorem s_11_205 : e_siteV 11 205 mX8_countOf 8 := ⟨tblG_in (inT5 (List.mem_of_getElem? (i := 215) rfl)) rfl, sel_X8_countOf.1, sel_X8_countOf.2, rfl⟩
theorem d_X8_countOf_0 : decode mX8_countOf.2.2.1 0 = .ok (.iconst 0, 1) := by decide +kernel
theorem d_X8_countOf_1 : decode mX8_countOf.2.2.1 1 = .ok (.istore_n 2, 1) := by decide +kernel
theorem d_X8_countOf_2 : decode mX8_countOf.2.2.1 2 = .ok (.iconst 0, 1) := by decide +kernel
theorem d_X8_countOf_3 : decode mX8_countOf.2.2.1 3 = .ok (.istore_n 3, 1) := by decide +kernel
theorem d_X8_countOf_4 : decode mX8_countOf.2.2.1 4 = .ok (.iload_n 3, 1) := by decide +kernel
theorem d_X8_countOf_5 : decode mX8_countOf.2.2.1 5 = .ok (.aload_n 0, 1) := by decide +kernel
theorem d_X8_countOf_6 : decode mX8_countOf.2.2.1 6 = .ok (.getfield 43, 3) := by decide +kernel
theorem f_8_43 : e_fld 8 43 8 0 12 0 false := ⟨RX8, TX8, 0, rfl, rfl, by decide, rfl, rfl, rfl, iX8, tblG_in (inT2 (List.mem_of_getElem? (i := 10) rfl)) rfl, tyX8_ok, nmX8⟩
theorem d_X8_countOf_9 : decode mX8_countOf.2.2.1 9 = .ok (.if_icmp .ge 22, 3) := by decide +kernel
theorem d_X8_countOf_31 : decode mX8_countOf.2.2.1 31 = .ok (.iload_n 2, 1) := by decide +kernel
theorem d_X8_countOf_32 : decode mX8_countOf.2.2.1 32 = .ok (.ireturn, 1) := by decide +kernel
theorem d_X8_countOf_12 : decode mX8_countOf.2.2.1 12 = .ok (.aload_n 0, 1) := by decide +kernel
theorem d_X8_countOf_13 : decode mX8_countOf.2.2.1 13 = .ok (.getfield 9, 3) := by decide +kernel
def mX11_stretch : MD := (11, yX11_stretch, cX11_stretch, 6, some .int)
theorem d_X11_stretch_0 : decode mX11_stretch.2.2.1 0 = .ok (.aload_n 0, 1) := by decide +kernel
theorem d_X11_stretch_1 : decode mX11_stretch.2.2.1 1 = .ok (.iload_n 1, 1) := by decide +kernel
theorem d_X11_stretch_2 : decode mX11_stretch.2.2.1 2 = .ok (.iload_n 2, 1) := by decide +kernel
theorem d_X11_stretch_3 : decode mX11_stretch.2.2.1 3 = .ok (.invokevirtual 214, 3) := by decide +kernel
def mX11_stretchPlace : MD := (11, yX11_stretchPlace, cX11_stretchPlace, 3, some .int)
theorem sel_X11_stretchPlace : Cond.instanceMethod mX11_stretchPlace.2.1 ∈ tblG ∧ Cond.selects mX11_stretchPlace.2.1.cls mX11_stretchPlace.2.1 mX11_stretchPlace.2.1 ∈ tblG := ⟨tblG_in (inT5 (List.mem_of_getElem? (i := 225) rfl)) rfl, tblG_in (inP4 (q := (mX11_stretchPlace.2.1, 14)) (List.mem_of_getElem? (i := 12) rfl)) rfl⟩
theorem s_11_214 : e_siteV 11 214 mX11_stretchPlace 11 := ⟨tblG_in (inT5 (List.mem_of_getElem? (i := 223) rfl)) rfl, sel_X11_stretchPlace.1, sel_X11_stretchPlace.2, rfl⟩
theorem d_X11_stretchPlace_0 : decode mX11_stretchPlace.2.2.1 0 = .ok (.aload_n 0, 1) := by decide +kernel
theorem d_X11_stretchPlace_1 : decode mX11_stretchPlace.2.2.1 1 = .ok (.getfield 109, 3) := by decide +kernel
theorem d_X11_stretchPlace_4 : decode mX11_stretchPlace.2.2.1 4 = .ok (.ifCond .eq 15, 3) := by decide +kernel
theorem d_X11_stretchPlace_19 : decode mX11_stretchPlace.2.2.1 19 = .ok (.iconst (-1), 1) := by decide +kernel
theorem d_X11_stretchPlace_20 : decode mX11_stretchPlace.2.2.1 20 = .ok (.ireturn, 1) := by decide +kernel
theorem d_X11_stretchPlace_7 : decode mX11_stretchPlace.2.2.1 7 = .ok (.aload_n 0, 1) := by decide +kernel
theorem d_X11_stretchPlace_8 : decode mX11_stretchPlace.2.2.1 8 = .ok (.iload_n 1, 1) := by decide +kernel
theorem d_X11_stretchPlace_9 : decode mX11_stretchPlace.2.2.1 9 = .ok (.invokevirtual 174, 3) := by decide +kernel
theorem d_X11_stretchPlace_12 : decode mX11_stretchPlace.2.2.1 12 = .ok (.ifCond .eq 7, 3) := by decide +kernel
theorem d_X11_stretchPlace_15 : decode mX11_stretchPlace.2.2.1 15 = .ok (.iload_n 2, 1) := by decide +kernel
theorem d_X11_stretchPlace_16 : decode mX11_stretchPlace.2.2.1 16 = .ok (.ifCond .ge 5, 3) := by decide +kernel
theorem d_X11_stretchPlace_21 : decode mX11_stretchPlace.2.2.1 21 = .ok (.aload_n 0, 1) := by decide +kernel
theorem d_X11_stretchPlace_22 : decode mX11_stretchPlace.2.2.1 22 = .ok (.getfield 46, 3) := by decide +kernel
