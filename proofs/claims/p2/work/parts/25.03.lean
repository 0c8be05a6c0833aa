theorem kl_11_230 : Jvm.Cond.constantLong (e_cn 11) 230 (Int64.ofInt (-1000000000000000)) ∈ tblG := tblG_in (inT5 (List.mem_of_getElem? (i := 239) rfl)) rfl
theorem d_X11_byTurns_24 : decode mX11_byTurns.2.2.1 24 = .ok (.lreturn, 1) := by decide +kernel
def mX11_wasted : MD := (11, yX11_wasted, cX11_wasted, 2, some .int)
theorem d_X11_wasted_0 : decode mX11_wasted.2.2.1 0 = .ok (.aload_n 0, 1) := by decide +kernel
theorem d_X11_wasted_1 : decode mX11_wasted.2.2.1 1 = .ok (.getfield 109, 3) := by decide +kernel
theorem d_X11_wasted_4 : decode mX11_wasted.2.2.1 4 = .ok (.ifCond .eq 11, 3) := by decide +kernel
theorem d_X11_wasted_15 : decode mX11_wasted.2.2.1 15 = .ok (.iconst (-1), 1) := by decide +kernel
theorem d_X11_wasted_16 : decode mX11_wasted.2.2.1 16 = .ok (.ireturn, 1) := by decide +kernel
theorem d_X11_wasted_7 : decode mX11_wasted.2.2.1 7 = .ok (.aload_n 0, 1) := by decide +kernel
theorem d_X11_wasted_8 : decode mX11_wasted.2.2.1 8 = .ok (.iload_n 1, 1) := by decide +kernel
theorem d_X11_wasted_9 : decode mX11_wasted.2.2.1 9 = .ok (.invokevirtual 191, 3) := by decide +kernel
theorem d_X11_wasted_12 : decode mX11_wasted.2.2.1 12 = .ok (.ifCond .ne 5, 3) := by decide +kernel
theorem d_X11_wasted_17 : decode mX11_wasted.2.2.1 17 = .ok (.aload_n 0, 1) := by decide +kernel
theorem d_X11_wasted_18 : decode mX11_wasted.2.2.1 18 = .ok (.getfield 46, 3) := by decide +kernel
theorem d_X11_wasted_21 : decode mX11_wasted.2.2.1 21 = .ok (.getfield 178, 3) := by decide +kernel
theorem d_X11_wasted_24 : decode mX11_wasted.2.2.1 24 = .ok (.getfield 246, 3) := by decide +kernel
theorem f_11_246 : e_fld 11 246 1 7 9 2 true := ⟨RX1, TX1, 7, rfl, rfl, by decide, rfl, rfl, rfl, iX1, tblG_in (inT2 (List.mem_of_getElem? (i := 76) rfl)) rfl, tyX1_ok, nmX1⟩
theorem d_X11_wasted_27 : decode mX11_wasted.2.2.1 27 = .ok (.iload_n 1, 1) := by decide +kernel
theorem d_X11_wasted_28 : decode mX11_wasted.2.2.1 28 = .ok (.iaload, 1) := by decide +kernel
theorem d_X11_wasted_29 : decode mX11_wasted.2.2.1 29 = .ok (.ireturn, 1) := by decide +kernel
def mX11_where : MD := (11, yX11_where, cX11_where, 2, some .int)
theorem d_X11_where_0 : decode mX11_where.2.2.1 0 = .ok (.iload_n 1, 1) := by decide +kernel
theorem d_X11_where_1 : decode mX11_where.2.2.1 1 = .ok (.ifCond .lt 16, 3) := by decide +kernel
theorem d_X11_where_17 : decode mX11_where.2.2.1 17 = .ok (.iconst (-1), 1) := by decide +kernel
theorem d_X11_where_18 : decode mX11_where.2.2.1 18 = .ok (.ireturn, 1) := by decide +kernel
theorem d_X11_where_4 : decode mX11_where.2.2.1 4 = .ok (.iload_n 1, 1) := by decide +kernel
theorem d_X11_where_5 : decode mX11_where.2.2.1 5 = .ok (.aload_n 0, 1) := by decide +kernel
theorem d_X11_where_6 : decode mX11_where.2.2.1 6 = .ok (.getfield 30, 3) := by decide +kernel
theorem d_X11_where_9 : decode mX11_where.2.2.1 9 = .ok (.getfield 130, 3) := by decide +kernel
theorem d_X11_where_12 : decode mX11_where.2.2.1 12 = .ok (.iconst 1, 1) := by decide +kernel
theorem d_X11_where_13 : decode mX11_where.2.2.1 13 = .ok (.iaload, 1) := by decide +kernel
theorem d_X11_where_14 : decode mX11_where.2.2.1 14 = .ok (.if_icmp .lt 5, 3) := by decide +kernel
theorem d_X11_where_19 : decode mX11_where.2.2.1 19 = .ok (.aload_n 0, 1) := by decide +kernel
theorem d_X11_where_20 : decode mX11_where.2.2.1 20 = .ok (.getfield 63, 3) := by decide +kernel
theorem d_X11_where_23 : decode mX11_where.2.2.1 23 = .ok (.iload_n 1, 1) := by decide +kernel
theorem d_X11_where_24 : decode mX11_where.2.2.1 24 = .ok (.invokevirtual 268, 3) := by decide +kernel
def mX10_chosenInput : MD := (10, yX10_chosenInput, cX10_chosenInput, 2, some .int)
theorem sel_X10_chosenInput : Cond.instanceMethod mX10_chosenInput.2.1 ∈ tblG ∧ Cond.selects mX10_chosenInput.2.1.cls mX10_chosenInput.2.1 mX10_chosenInput.2.1 ∈ tblG := ⟨tblG_in (inT6 (List.mem_of_getElem? (i := 79) rfl)) rfl, tblG_in (inT6 (List.mem_of_getElem? (i := 80) rfl)) rfl⟩
theorem s_11_268 : e_siteV 11 268 mX10_chosenInput 10 := ⟨tblG_in (inT6 (List.mem_of_getElem? (i := 78) rfl)) rfl, sel_X10_chosenInput.1, sel_X10_chosenInput.2, rfl⟩
theorem d_X10_chosenInput_0 : decode mX10_chosenInput.2.2.1 0 = .ok (.aload_n 0, 1) := by decide +kernel
theorem d_X10_chosenInput_1 : decode mX10_chosenInput.2.2.1 1 = .ok (.getfield 21, 3) := by decide +kernel
theorem f_10_21 : e_fld 10 21 10 0 7 3 false := ⟨RX10, TX10, 0, rfl, rfl, by decide, rfl, rfl, rfl, iX10, tblG_in (inT2 (List.mem_of_getElem? (i := 189) rfl)) rfl, tyX10_ok, nmX10⟩
theorem d_X10_chosenInput_4 : decode mX10_chosenInput.2.2.1 4 = .ok (.ifCond .ne 5, 3) := by decide +kernel
theorem d_X10_chosenInput_9 : decode mX10_chosenInput.2.2.1 9 = .ok (.aload_n 0, 1) := by decide +kernel
theorem d_X10_chosenInput_10 : decode mX10_chosenInput.2.2.1 10 = .ok (.getfield 52, 3) := by decide +kernel
theorem f_10_52 : e_fld 10 52 10 1 7 3 false := ⟨RX10, TX10, 1, rfl, rfl, by decide, rfl, rfl, rfl, iX10, tblG_in (inT2 (List.mem_of_getElem? (i := 190) rfl)) rfl, tyX10_ok, nmX10⟩
theorem d_X10_chosenInput_13 : decode mX10_chosenInput.2.2.1 13 = .ok (.ifCond .eq 12, 3) := by decide +kernel
theorem d_X10_chosenInput_25 : decode mX10_chosenInput.2.2.1 25 = .ok (.aload_n 0, 1) := by decide +kernel
theorem d_X10_chosenInput_26 : decode mX10_chosenInput.2.2.1 26 = .ok (.getfield 18, 3) := by decide +kernel
theorem d_X10_chosenInput_29 : decode mX10_chosenInput.2.2.1 29 = .ok (.iload_n 1, 1) := by decide +kernel
theorem d_X10_chosenInput_30 : decode mX10_chosenInput.2.2.1 30 = .ok (.iaload, 1) := by decide +kernel
theorem d_X10_chosenInput_31 : decode mX10_chosenInput.2.2.1 31 = .ok (.ireturn, 1) := by decide +kernel
theorem d_X10_chosenInput_16 : decode mX10_chosenInput.2.2.1 16 = .ok (.aload_n 0, 1) := by decide +kernel
theorem d_X10_chosenInput_17 : decode mX10_chosenInput.2.2.1 17 = .ok (.getfield 15, 3) := by decide +kernel
theorem d_X10_chosenInput_20 : decode mX10_chosenInput.2.2.1 20 = .ok (.iload_n 1, 1) := by decide +kernel
theorem d_X10_chosenInput_21 : decode mX10_chosenInput.2.2.1 21 = .ok (.iaload, 1) := by decide +kernel
theorem d_X10_chosenInput_22 : decode mX10_chosenInput.2.2.1 22 = .ok (.goto 9, 3) := by decide +kernel
theorem d_X10_chosenInput_7 : decode mX10_chosenInput.2.2.1 7 = .ok (.iconst (-1), 1) := by decide +kernel
theorem d_X10_chosenInput_8 : decode mX10_chosenInput.2.2.1 8 = .ok (.ireturn, 1) := by decide +kernel
theorem ok_X10_chosenInput : e_m mX10_chosenInput 1 := ⟨tblG_in (inT6 (List.mem_of_getElem? (i := 81) rfl)) rfl, plainFor_of_name (by decide), rfl, ini_10, by decide +kernel, by decide⟩
theorem d_X11_where_27 : decode mX11_where.2.2.1 27 = .ok (.ireturn, 1) := by decide +kernel
def mX11_fit : MD := (11, yX11_fit, cX11_fit, 2, some .int)
theorem d_X11_fit_0 : decode mX11_fit.2.2.1 0 = .ok (.aload_n 0, 1) := by decide +kernel
theorem d_X11_fit_1 : decode mX11_fit.2.2.1 1 = .ok (.iload_n 1, 1) := by decide +kernel
theorem d_X11_fit_2 : decode mX11_fit.2.2.1 2 = .ok (.invokevirtual 174, 3) := by decide +kernel
theorem d_X11_fit_5 : decode mX11_fit.2.2.1 5 = .ok (.ifCond .eq 13, 3) := by decide +kernel
theorem d_X11_fit_18 : decode mX11_fit.2.2.1 18 = .ok (.iconst (-1), 1) := by decide +kernel
theorem d_X11_fit_19 : decode mX11_fit.2.2.1 19 = .ok (.ireturn, 1) := by decide +kernel
theorem d_X11_fit_8 : decode mX11_fit.2.2.1 8 = .ok (.aload_n 0, 1) := by decide +kernel
theorem d_X11_fit_9 : decode mX11_fit.2.2.1 9 = .ok (.getfield 70, 3) := by decide +kernel
theorem d_X11_fit_12 : decode mX11_fit.2.2.1 12 = .ok (.getfield 133, 3) := by decide +kernel
theorem d_X11_fit_15 : decode mX11_fit.2.2.1 15 = .ok (.ifCond .ne 5, 3) := by decide +kernel
theorem d_X11_fit_20 : decode mX11_fit.2.2.1 20 = .ok (.aload_n 0, 1) := by decide +kernel
theorem d_X11_fit_21 : decode mX11_fit.2.2.1 21 = .ok (.getfield 70, 3) := by decide +kernel
theorem d_X11_fit_24 : decode mX11_fit.2.2.1 24 = .ok (.aload_n 0, 1) := by decide +kernel
theorem d_X11_fit_25 : decode mX11_fit.2.2.1 25 = .ok (.getfield 30, 3) := by decide +kernel
theorem d_X11_fit_28 : decode mX11_fit.2.2.1 28 = .ok (.iload_n 1, 1) := by decide +kernel
theorem d_X11_fit_29 : decode mX11_fit.2.2.1 29 = .ok (.invokevirtual 276, 3) := by decide +kernel
def mX2_search : MD := (2, yX2_search, cX2_search, 6, some .int)
theorem sel_X2_search : Cond.instanceMethod mX2_search.2.1 ∈ tblG ∧ Cond.selects mX2_search.2.1.cls mX2_search.2.1 mX2_search.2.1 ∈ tblG := ⟨tblG_in (inT6 (List.mem_of_getElem? (i := 97) rfl)) rfl, tblG_in (inT6 (List.mem_of_getElem? (i := 98) rfl)) rfl⟩
theorem s_11_276 : e_siteV 11 276 mX2_search 2 := ⟨tblG_in (inT6 (List.mem_of_getElem? (i := 96) rfl)) rfl, sel_X2_search.1, sel_X2_search.2, rfl⟩
theorem d_X2_search_0 : decode mX2_search.2.2.1 0 = .ok (.iconst 0, 1) := by decide +kernel
theorem d_X2_search_1 : decode mX2_search.2.2.1 1 = .ok (.istore_n 3, 1) := by decide +kernel
theorem d_X2_search_2 : decode mX2_search.2.2.1 2 = .ok (.iload_n 3, 1) := by decide +kernel
theorem d_X2_search_3 : decode mX2_search.2.2.1 3 = .ok (.aload_n 0, 1) := by decide +kernel
theorem d_X2_search_4 : decode mX2_search.2.2.1 4 = .ok (.getfield 27, 3) := by decide +kernel
theorem f_2_27 : e_fld 2 27 2 0 7 0 false := ⟨RX2, TX2, 0, rfl, rfl, by decide, rfl, rfl, rfl, iX2, tblG_in (inT2 (List.mem_of_getElem? (i := 218) rfl)) rfl, tyX2_ok, nmX2⟩
theorem d_X2_search_7 : decode mX2_search.2.2.1 7 = .ok (.if_icmp .ge 36, 3) := by decide +kernel
theorem d_X2_search_43 : decode mX2_search.2.2.1 43 = .ok (.iconst 0, 1) := by decide +kernel
theorem d_X2_search_44 : decode mX2_search.2.2.1 44 = .ok (.istore_n 3, 1) := by decide +kernel
theorem d_X2_search_45 : decode mX2_search.2.2.1 45 = .ok (.iconst 0, 1) := by decide +kernel
theorem d_X2_search_46 : decode mX2_search.2.2.1 46 = .ok (.istore 4, 2) := by decide +kernel
theorem d_X2_search_10 : decode mX2_search.2.2.1 10 = .ok (.aload_n 0, 1) := by decide +kernel
theorem d_X2_search_11 : decode mX2_search.2.2.1 11 = .ok (.getfield 24, 3) := by decide +kernel
theorem d_X2_search_14 : decode mX2_search.2.2.1 14 = .ok (.iload_n 3, 1) := by decide +kernel
theorem d_X2_search_15 : decode mX2_search.2.2.1 15 = .ok (.aload_n 0, 1) := by decide +kernel
theorem d_X2_search_16 : decode mX2_search.2.2.1 16 = .ok (.getfield 18, 3) := by decide +kernel
theorem d_X2_search_19 : decode mX2_search.2.2.1 19 = .ok (.iload_n 3, 1) := by decide +kernel
theorem d_X2_search_20 : decode mX2_search.2.2.1 20 = .ok (.iaload, 1) := by decide +kernel
theorem d_X2_search_21 : decode mX2_search.2.2.1 21 = .ok (.aload_n 0, 1) := by decide +kernel
theorem d_X2_search_22 : decode mX2_search.2.2.1 22 = .ok (.getfield 15, 3) := by decide +kernel
theorem d_X2_search_25 : decode mX2_search.2.2.1 25 = .ok (.iload_n 3, 1) := by decide +kernel
theorem d_X2_search_26 : decode mX2_search.2.2.1 26 = .ok (.iaload, 1) := by decide +kernel
theorem d_X2_search_27 : decode mX2_search.2.2.1 27 = .ok (.isub, 1) := by decide +kernel
theorem d_X2_search_28 : decode mX2_search.2.2.1 28 = .ok (.aload_n 0, 1) := by decide +kernel
theorem d_X2_search_29 : decode mX2_search.2.2.1 29 = .ok (.aload_n 1, 1) := by decide +kernel
theorem d_X2_search_30 : decode mX2_search.2.2.1 30 = .ok (.iload_n 2, 1) := by decide +kernel
theorem d_X2_search_31 : decode mX2_search.2.2.1 31 = .ok (.iload_n 3, 1) := by decide +kernel
theorem d_X2_search_32 : decode mX2_search.2.2.1 32 = .ok (.invokevirtual 54, 3) := by decide +kernel
def mX2_ownSips : MD := (2, yX2_ownSips, cX2_ownSips, 6, some .int)
theorem sel_X2_ownSips : Cond.instanceMethod mX2_ownSips.2.1 ∈ tblG ∧ Cond.selects mX2_ownSips.2.1.cls mX2_ownSips.2.1 mX2_ownSips.2.1 ∈ tblG := ⟨tblG_in (inT6 (List.mem_of_getElem? (i := 102) rfl)) rfl, tblG_in (inP5 (q := (mX2_ownSips.2.1, 7)) (List.mem_of_getElem? (i := 0) rfl)) rfl⟩
theorem s_2_54 : e_siteV 2 54 mX2_ownSips 2 := ⟨tblG_in (inT6 (List.mem_of_getElem? (i := 100) rfl)) rfl, sel_X2_ownSips.1, sel_X2_ownSips.2, rfl⟩
theorem d_X2_ownSips_0 : decode mX2_ownSips.2.2.1 0 = .ok (.iconst 0, 1) := by decide +kernel
theorem d_X2_ownSips_1 : decode mX2_ownSips.2.2.1 1 = .ok (.istore 4, 2) := by decide +kernel
theorem d_X2_ownSips_3 : decode mX2_ownSips.2.2.1 3 = .ok (.iconst 0, 1) := by decide +kernel
theorem d_X2_ownSips_4 : decode mX2_ownSips.2.2.1 4 = .ok (.istore 5, 2) := by decide +kernel
theorem d_X2_ownSips_6 : decode mX2_ownSips.2.2.1 6 = .ok (.iload 5, 2) := by decide +kernel
theorem d_X2_ownSips_8 : decode mX2_ownSips.2.2.1 8 = .ok (.iconst 4, 1) := by decide +kernel
theorem d_X2_ownSips_9 : decode mX2_ownSips.2.2.1 9 = .ok (.if_icmp .ge 48, 3) := by decide +kernel
theorem d_X2_ownSips_12 : decode mX2_ownSips.2.2.1 12 = .ok (.iload 5, 2) := by decide +kernel
theorem d_X2_ownSips_14 : decode mX2_ownSips.2.2.1 14 = .ok (.iconst 1, 1) := by decide +kernel
theorem d_X2_ownSips_15 : decode mX2_ownSips.2.2.1 15 = .ok (.if_icmp .eq 36, 3) := by decide +kernel
theorem d_X2_ownSips_18 : decode mX2_ownSips.2.2.1 18 = .ok (.iload 4, 2) := by decide +kernel
theorem d_X2_ownSips_20 : decode mX2_ownSips.2.2.1 20 = .ok (.aload_n 1, 1) := by decide +kernel
theorem d_X2_ownSips_21 : decode mX2_ownSips.2.2.1 21 = .ok (.getfield 62, 3) := by decide +kernel
theorem f_2_62 : e_fld 2 62 3 5 12 2 true := ⟨RX3, TX3, 5, rfl, rfl, by decide, rfl, rfl, rfl, iX3, tblG_in (inT1 (List.mem_of_getElem? (i := 180) rfl)) rfl, tyX3_ok, nmX3⟩
theorem d_X2_ownSips_24 : decode mX2_ownSips.2.2.1 24 = .ok (.iload_n 2, 1) := by decide +kernel
theorem d_X2_ownSips_25 : decode mX2_ownSips.2.2.1 25 = .ok (.iconst 4, 1) := by decide +kernel
theorem d_X2_ownSips_26 : decode mX2_ownSips.2.2.1 26 = .ok (.imul, 1) := by decide +kernel
theorem d_X2_ownSips_27 : decode mX2_ownSips.2.2.1 27 = .ok (.iload 5, 2) := by decide +kernel
theorem d_X2_ownSips_29 : decode mX2_ownSips.2.2.1 29 = .ok (.iadd, 1) := by decide +kernel
theorem d_X2_ownSips_30 : decode mX2_ownSips.2.2.1 30 = .ok (.iaload, 1) := by decide +kernel
theorem d_X2_ownSips_31 : decode mX2_ownSips.2.2.1 31 = .ok (.aload_n 0, 1) := by decide +kernel
theorem d_X2_ownSips_32 : decode mX2_ownSips.2.2.1 32 = .ok (.getfield 21, 3) := by decide +kernel
theorem d_X2_ownSips_35 : decode mX2_ownSips.2.2.1 35 = .ok (.iload_n 3, 1) := by decide +kernel
theorem d_X2_ownSips_36 : decode mX2_ownSips.2.2.1 36 = .ok (.bipush 24, 2) := by decide +kernel
theorem d_X2_ownSips_38 : decode mX2_ownSips.2.2.1 38 = .ok (.imul, 1) := by decide +kernel
theorem d_X2_ownSips_39 : decode mX2_ownSips.2.2.1 39 = .ok (.iload_n 2, 1) := by decide +kernel
theorem d_X2_ownSips_40 : decode mX2_ownSips.2.2.1 40 = .ok (.iconst 4, 1) := by decide +kernel
theorem d_X2_ownSips_41 : decode mX2_ownSips.2.2.1 41 = .ok (.imul, 1) := by decide +kernel
theorem d_X2_ownSips_42 : decode mX2_ownSips.2.2.1 42 = .ok (.iadd, 1) := by decide +kernel
theorem d_X2_ownSips_43 : decode mX2_ownSips.2.2.1 43 = .ok (.iload 5, 2) := by decide +kernel
theorem d_X2_ownSips_45 : decode mX2_ownSips.2.2.1 45 = .ok (.iadd, 1) := by decide +kernel
theorem d_X2_ownSips_46 : decode mX2_ownSips.2.2.1 46 = .ok (.iaload, 1) := by decide +kernel
theorem d_X2_ownSips_47 : decode mX2_ownSips.2.2.1 47 = .ok (.imul, 1) := by decide +kernel
theorem d_X2_ownSips_48 : decode mX2_ownSips.2.2.1 48 = .ok (.iadd, 1) := by decide +kernel
theorem d_X2_ownSips_49 : decode mX2_ownSips.2.2.1 49 = .ok (.istore 4, 2) := by decide +kernel
theorem d_X2_ownSips_51 : decode mX2_ownSips.2.2.1 51 = .ok (.iinc 5 1, 3) := by decide +kernel
theorem d_X2_ownSips_54 : decode mX2_ownSips.2.2.1 54 = .ok (.goto (-48), 3) := by decide +kernel
theorem d_X2_ownSips_57 : decode mX2_ownSips.2.2.1 57 = .ok (.iload 4, 2) := by decide +kernel
theorem d_X2_ownSips_59 : decode mX2_ownSips.2.2.1 59 = .ok (.ireturn, 1) := by decide +kernel
theorem ok_X2_ownSips : e_m mX2_ownSips 3 := ⟨tblG_in (inT6 (List.mem_of_getElem? (i := 103) rfl)) rfl, plainFor_of_name (by decide), rfl, ini_2, by decide +kernel, by decide⟩
theorem d_X2_search_35 : decode mX2_search.2.2.1 35 = .ok (.isub, 1) := by decide +kernel
theorem d_X2_search_36 : decode mX2_search.2.2.1 36 = .ok (.iastore, 1) := by decide +kernel
theorem d_X2_search_37 : decode mX2_search.2.2.1 37 = .ok (.iinc 3 1, 3) := by decide +kernel
theorem d_X2_search_40 : decode mX2_search.2.2.1 40 = .ok (.goto (-38), 3) := by decide +kernel
theorem d_X2_search_48 : decode mX2_search.2.2.1 48 = .ok (.iload 4, 2) := by decide +kernel
theorem d_X2_search_50 : decode mX2_search.2.2.1 50 = .ok (.sipush 4096, 3) := by decide +kernel
theorem d_X2_search_53 : decode mX2_search.2.2.1 53 = .ok (.if_icmp .ge 109, 3) := by decide +kernel
theorem d_X2_search_56 : decode mX2_search.2.2.1 56 = .ok (.aload_n 0, 1) := by decide +kernel
theorem d_X2_search_57 : decode mX2_search.2.2.1 57 = .ok (.iload_n 2, 1) := by decide +kernel
theorem d_X2_search_58 : decode mX2_search.2.2.1 58 = .ok (.iload 4, 2) := by decide +kernel
theorem d_X2_search_60 : decode mX2_search.2.2.1 60 = .ok (.sipush 256, 3) := by decide +kernel
theorem d_X2_search_63 : decode mX2_search.2.2.1 63 = .ok (.idiv, 1) := by decide +kernel
theorem d_X2_search_64 : decode mX2_search.2.2.1 64 = .ok (.iload 4, 2) := by decide +kernel
theorem d_X2_search_66 : decode mX2_search.2.2.1 66 = .ok (.bipush 16, 2) := by decide +kernel
theorem d_X2_search_68 : decode mX2_search.2.2.1 68 = .ok (.idiv, 1) := by decide +kernel
theorem d_X2_search_69 : decode mX2_search.2.2.1 69 = .ok (.bipush 16, 2) := by decide +kernel
theorem d_X2_search_71 : decode mX2_search.2.2.1 71 = .ok (.irem, 1) := by decide +kernel
theorem d_X2_search_72 : decode mX2_search.2.2.1 72 = .ok (.iload 4, 2) := by decide +kernel
theorem d_X2_search_74 : decode mX2_search.2.2.1 74 = .ok (.bipush 16, 2) := by decide +kernel
theorem d_X2_search_76 : decode mX2_search.2.2.1 76 = .ok (.irem, 1) := by decide +kernel
theorem d_X2_search_77 : decode mX2_search.2.2.1 77 = .ok (.invokevirtual 58, 3) := by decide +kernel
def mX2_differences : MD := (2, yX2_differences, cX2_differences, 8, some .int)
theorem sel_X2_differences : Cond.instanceMethod mX2_differences.2.1 ∈ tblG ∧ Cond.selects mX2_differences.2.1.cls mX2_differences.2.1 mX2_differences.2.1 ∈ tblG := ⟨tblG_in (inT6 (List.mem_of_getElem? (i := 106) rfl)) rfl, tblG_in (inP5 (q := (mX2_differences.2.1, 7)) (List.mem_of_getElem? (i := 1) rfl)) rfl⟩
theorem s_2_58 : e_siteV 2 58 mX2_differences 2 := ⟨tblG_in (inT6 (List.mem_of_getElem? (i := 104) rfl)) rfl, sel_X2_differences.1, sel_X2_differences.2, rfl⟩
theorem d_X2_differences_0 : decode mX2_differences.2.2.1 0 = .ok (.iconst 0, 1) := by decide +kernel
theorem d_X2_differences_1 : decode mX2_differences.2.2.1 1 = .ok (.istore 5, 2) := by decide +kernel
theorem d_X2_differences_3 : decode mX2_differences.2.2.1 3 = .ok (.iconst 0, 1) := by decide +kernel
theorem d_X2_differences_4 : decode mX2_differences.2.2.1 4 = .ok (.istore 6, 2) := by decide +kernel
theorem d_X2_differences_6 : decode mX2_differences.2.2.1 6 = .ok (.iload 6, 2) := by decide +kernel
theorem d_X2_differences_8 : decode mX2_differences.2.2.1 8 = .ok (.aload_n 0, 1) := by decide +kernel
theorem d_X2_differences_9 : decode mX2_differences.2.2.1 9 = .ok (.getfield 27, 3) := by decide +kernel
theorem d_X2_differences_12 : decode mX2_differences.2.2.1 12 = .ok (.if_icmp .ge 72, 3) := by decide +kernel
theorem d_X2_differences_84 : decode mX2_differences.2.2.1 84 = .ok (.iload 5, 2) := by decide +kernel
theorem d_X2_differences_86 : decode mX2_differences.2.2.1 86 = .ok (.ireturn, 1) := by decide +kernel
theorem d_X2_differences_15 : decode mX2_differences.2.2.1 15 = .ok (.iload 6, 2) := by decide +kernel
theorem d_X2_differences_17 : decode mX2_differences.2.2.1 17 = .ok (.bipush 24, 2) := by decide +kernel
theorem d_X2_differences_19 : decode mX2_differences.2.2.1 19 = .ok (.imul, 1) := by decide +kernel
theorem d_X2_differences_20 : decode mX2_differences.2.2.1 20 = .ok (.iload_n 1, 1) := by decide +kernel
theorem d_X2_differences_21 : decode mX2_differences.2.2.1 21 = .ok (.iconst 4, 1) := by decide +kernel
theorem d_X2_differences_22 : decode mX2_differences.2.2.1 22 = .ok (.imul, 1) := by decide +kernel
theorem d_X2_differences_23 : decode mX2_differences.2.2.1 23 = .ok (.iadd, 1) := by decide +kernel
theorem d_X2_differences_24 : decode mX2_differences.2.2.1 24 = .ok (.istore 7, 2) := by decide +kernel
theorem d_X2_differences_26 : decode mX2_differences.2.2.1 26 = .ok (.iload 5, 2) := by decide +kernel
theorem d_X2_differences_28 : decode mX2_differences.2.2.1 28 = .ok (.aload_n 0, 1) := by decide +kernel
theorem d_X2_differences_29 : decode mX2_differences.2.2.1 29 = .ok (.getfield 24, 3) := by decide +kernel
theorem d_X2_differences_32 : decode mX2_differences.2.2.1 32 = .ok (.iload 6, 2) := by decide +kernel
theorem d_X2_differences_34 : decode mX2_differences.2.2.1 34 = .ok (.iaload, 1) := by decide +kernel
theorem d_X2_differences_35 : decode mX2_differences.2.2.1 35 = .ok (.iload_n 2, 1) := by decide +kernel
theorem d_X2_differences_36 : decode mX2_differences.2.2.1 36 = .ok (.aload_n 0, 1) := by decide +kernel
theorem d_X2_differences_37 : decode mX2_differences.2.2.1 37 = .ok (.getfield 21, 3) := by decide +kernel
theorem d_X2_differences_40 : decode mX2_differences.2.2.1 40 = .ok (.iload 7, 2) := by decide +kernel
theorem d_X2_differences_42 : decode mX2_differences.2.2.1 42 = .ok (.iconst 0, 1) := by decide +kernel
theorem d_X2_differences_43 : decode mX2_differences.2.2.1 43 = .ok (.iadd, 1) := by decide +kernel
theorem d_X2_differences_44 : decode mX2_differences.2.2.1 44 = .ok (.iaload, 1) := by decide +kernel
theorem d_X2_differences_45 : decode mX2_differences.2.2.1 45 = .ok (.imul, 1) := by decide +kernel
theorem d_X2_differences_46 : decode mX2_differences.2.2.1 46 = .ok (.iadd, 1) := by decide +kernel
theorem d_X2_differences_47 : decode mX2_differences.2.2.1 47 = .ok (.iload_n 3, 1) := by decide +kernel
theorem d_X2_differences_48 : decode mX2_differences.2.2.1 48 = .ok (.aload_n 0, 1) := by decide +kernel
theorem d_X2_differences_49 : decode mX2_differences.2.2.1 49 = .ok (.getfield 21, 3) := by decide +kernel
theorem d_X2_differences_52 : decode mX2_differences.2.2.1 52 = .ok (.iload 7, 2) := by decide +kernel
theorem d_X2_differences_54 : decode mX2_differences.2.2.1 54 = .ok (.iconst 2, 1) := by decide +kernel
theorem d_X2_differences_55 : decode mX2_differences.2.2.1 55 = .ok (.iadd, 1) := by decide +kernel
theorem d_X2_differences_56 : decode mX2_differences.2.2.1 56 = .ok (.iaload, 1) := by decide +kernel
theorem d_X2_differences_57 : decode mX2_differences.2.2.1 57 = .ok (.imul, 1) := by decide +kernel
theorem d_X2_differences_58 : decode mX2_differences.2.2.1 58 = .ok (.iadd, 1) := by decide +kernel
theorem d_X2_differences_59 : decode mX2_differences.2.2.1 59 = .ok (.iload 4, 2) := by decide +kernel
theorem d_X2_differences_61 : decode mX2_differences.2.2.1 61 = .ok (.aload_n 0, 1) := by decide +kernel
theorem d_X2_differences_62 : decode mX2_differences.2.2.1 62 = .ok (.getfield 21, 3) := by decide +kernel
theorem d_X2_differences_65 : decode mX2_differences.2.2.1 65 = .ok (.iload 7, 2) := by decide +kernel
theorem d_X2_differences_67 : decode mX2_differences.2.2.1 67 = .ok (.iconst 3, 1) := by decide +kernel
theorem d_X2_differences_68 : decode mX2_differences.2.2.1 68 = .ok (.iadd, 1) := by decide +kernel
theorem d_X2_differences_69 : decode mX2_differences.2.2.1 69 = .ok (.iaload, 1) := by decide +kernel
theorem d_X2_differences_70 : decode mX2_differences.2.2.1 70 = .ok (.imul, 1) := by decide +kernel
theorem d_X2_differences_71 : decode mX2_differences.2.2.1 71 = .ok (.iadd, 1) := by decide +kernel
theorem d_X2_differences_72 : decode mX2_differences.2.2.1 72 = .ok (.invokestatic 67, 3) := by decide +kernel
theorem mw_mabs : Cond.static Lib.Math.abs.name ∈ tblG ∧ Cond.initialized "java/lang/Math" ∈ tblG ∧ Cond.code Lib.Math.abs.name Lib.Math.abs.code 1 (some .int) ∈ tblG := ⟨tblG_in (inT6 (List.mem_of_getElem? (i := 109) rfl)) rfl, tblG_in (inT1 (List.mem_of_getElem? (i := 19) rfl)) rfl, tblG_in (inT6 (List.mem_of_getElem? (i := 110) rfl)) rfl⟩
theorem ml_2_67 : Cond.methodLink (e_cn 2) 67 Lib.Math.abs.name ∈ tblG := tblG_in (inT6 (List.mem_of_getElem? (i := 108) rfl)) rfl
theorem d_X2_differences_75 : decode mX2_differences.2.2.1 75 = .ok (.iadd, 1) := by decide +kernel
