theorem d_X1_paysInParts_89 : decode mX1_paysInParts.2.2.1 89 = .ok (.iinc 3 1, 3) := by decide +kernel
theorem d_X1_paysInParts_92 : decode mX1_paysInParts.2.2.1 92 = .ok (.goto (-83), 3) := by decide +kernel
theorem ok_X1_paysInParts : e_m mX1_paysInParts 1 := ⟨tblG_in (inT5 (List.mem_of_getElem? (i := 201) rfl)) rfl, plainFor_of_name (by decide), rfl, ini_1, by decide +kernel, by decide⟩
theorem d_X11_pays_73 : decode mX11_pays.2.2.1 73 = .ok (.ireturn, 1) := by decide +kernel
theorem d_X11_pays_48 : decode mX11_pays.2.2.1 48 = .ok (.aload_n 0, 1) := by decide +kernel
theorem d_X11_pays_49 : decode mX11_pays.2.2.1 49 = .ok (.getfield 46, 3) := by decide +kernel
theorem d_X11_pays_52 : decode mX11_pays.2.2.1 52 = .ok (.getfield 178, 3) := by decide +kernel
theorem d_X11_pays_55 : decode mX11_pays.2.2.1 55 = .ok (.iload_n 1, 1) := by decide +kernel
theorem d_X11_pays_56 : decode mX11_pays.2.2.1 56 = .ok (.invokevirtual 194, 3) := by decide +kernel
def mX1_paysAsLast : MD := (1, yX1_paysAsLast, cX1_paysAsLast, 2, some .int)
theorem sel_X1_paysAsLast : Cond.instanceMethod mX1_paysAsLast.2.1 ∈ tblG ∧ Cond.selects mX1_paysAsLast.2.1.cls mX1_paysAsLast.2.1 mX1_paysAsLast.2.1 ∈ tblG := ⟨tblG_in (inT5 (List.mem_of_getElem? (i := 195) rfl)) rfl, tblG_in (inT5 (List.mem_of_getElem? (i := 196) rfl)) rfl⟩
theorem s_11_194 : e_siteV 11 194 mX1_paysAsLast 1 := ⟨tblG_in (inT5 (List.mem_of_getElem? (i := 194) rfl)) rfl, sel_X1_paysAsLast.1, sel_X1_paysAsLast.2, rfl⟩
theorem d_X1_paysAsLast_0 : decode mX1_paysAsLast.2.2.1 0 = .ok (.aload_n 0, 1) := by decide +kernel
theorem d_X1_paysAsLast_1 : decode mX1_paysAsLast.2.2.1 1 = .ok (.getfield 21, 3) := by decide +kernel
theorem d_X1_paysAsLast_4 : decode mX1_paysAsLast.2.2.1 4 = .ok (.iload_n 1, 1) := by decide +kernel
theorem d_X1_paysAsLast_5 : decode mX1_paysAsLast.2.2.1 5 = .ok (.iaload, 1) := by decide +kernel
theorem d_X1_paysAsLast_6 : decode mX1_paysAsLast.2.2.1 6 = .ok (.aload_n 0, 1) := by decide +kernel
theorem d_X1_paysAsLast_7 : decode mX1_paysAsLast.2.2.1 7 = .ok (.getfield 24, 3) := by decide +kernel
theorem d_X1_paysAsLast_10 : decode mX1_paysAsLast.2.2.1 10 = .ok (.iload_n 1, 1) := by decide +kernel
theorem d_X1_paysAsLast_11 : decode mX1_paysAsLast.2.2.1 11 = .ok (.iaload, 1) := by decide +kernel
theorem d_X1_paysAsLast_12 : decode mX1_paysAsLast.2.2.1 12 = .ok (.iadd, 1) := by decide +kernel
theorem d_X1_paysAsLast_13 : decode mX1_paysAsLast.2.2.1 13 = .ok (.ireturn, 1) := by decide +kernel
theorem ok_X1_paysAsLast : e_m mX1_paysAsLast 1 := ⟨tblG_in (inT5 (List.mem_of_getElem? (i := 197) rfl)) rfl, plainFor_of_name (by decide), rfl, ini_1, by decide +kernel, by decide⟩
theorem d_X11_pays_59 : decode mX11_pays.2.2.1 59 = .ok (.goto 14, 3) := by decide +kernel
theorem d_X11_pays_42 : decode mX11_pays.2.2.1 42 = .ok (.iconst (-1), 1) := by decide +kernel
theorem d_X11_pays_43 : decode mX11_pays.2.2.1 43 = .ok (.ireturn, 1) := by decide +kernel
theorem d_X11_pays_23 : decode mX11_pays.2.2.1 23 = .ok (.aload_n 0, 1) := by decide +kernel
theorem d_X11_pays_24 : decode mX11_pays.2.2.1 24 = .ok (.getfield 46, 3) := by decide +kernel
theorem d_X11_pays_27 : decode mX11_pays.2.2.1 27 = .ok (.getfield 178, 3) := by decide +kernel
theorem d_X11_pays_30 : decode mX11_pays.2.2.1 30 = .ok (.invokevirtual 187, 3) := by decide +kernel
def mX1_sippedAsleep : MD := (1, yX1_sippedAsleep, cX1_sippedAsleep, 3, some .int)
theorem sel_X1_sippedAsleep : Cond.instanceMethod mX1_sippedAsleep.2.1 ∈ tblG ∧ Cond.selects mX1_sippedAsleep.2.1.cls mX1_sippedAsleep.2.1 mX1_sippedAsleep.2.1 ∈ tblG := ⟨tblG_in (inT5 (List.mem_of_getElem? (i := 187) rfl)) rfl, tblG_in (inT5 (List.mem_of_getElem? (i := 188) rfl)) rfl⟩
theorem s_11_187 : e_siteV 11 187 mX1_sippedAsleep 1 := ⟨tblG_in (inT5 (List.mem_of_getElem? (i := 186) rfl)) rfl, sel_X1_sippedAsleep.1, sel_X1_sippedAsleep.2, rfl⟩
theorem d_X1_sippedAsleep_0 : decode mX1_sippedAsleep.2.2.1 0 = .ok (.iconst 0, 1) := by decide +kernel
theorem d_X1_sippedAsleep_1 : decode mX1_sippedAsleep.2.2.1 1 = .ok (.istore_n 1, 1) := by decide +kernel
theorem d_X1_sippedAsleep_2 : decode mX1_sippedAsleep.2.2.1 2 = .ok (.iconst 0, 1) := by decide +kernel
theorem d_X1_sippedAsleep_3 : decode mX1_sippedAsleep.2.2.1 3 = .ok (.istore_n 2, 1) := by decide +kernel
theorem d_X1_sippedAsleep_4 : decode mX1_sippedAsleep.2.2.1 4 = .ok (.iload_n 2, 1) := by decide +kernel
theorem d_X1_sippedAsleep_5 : decode mX1_sippedAsleep.2.2.1 5 = .ok (.aload_n 0, 1) := by decide +kernel
theorem d_X1_sippedAsleep_6 : decode mX1_sippedAsleep.2.2.1 6 = .ok (.getfield 41, 3) := by decide +kernel
theorem d_X1_sippedAsleep_9 : decode mX1_sippedAsleep.2.2.1 9 = .ok (.getfield 91, 3) := by decide +kernel
theorem f_1_91 : e_fld 1 91 3 4 12 2 true := ⟨RX3, TX3, 4, rfl, rfl, by decide, rfl, rfl, rfl, iX3, tblG_in (inT1 (List.mem_of_getElem? (i := 176) rfl)) rfl, tyX3_ok, nmX3⟩
theorem d_X1_sippedAsleep_12 : decode mX1_sippedAsleep.2.2.1 12 = .ok (.iconst 0, 1) := by decide +kernel
theorem d_X1_sippedAsleep_13 : decode mX1_sippedAsleep.2.2.1 13 = .ok (.iaload, 1) := by decide +kernel
theorem d_X1_sippedAsleep_14 : decode mX1_sippedAsleep.2.2.1 14 = .ok (.if_icmp .ge 36, 3) := by decide +kernel
theorem d_X1_sippedAsleep_50 : decode mX1_sippedAsleep.2.2.1 50 = .ok (.iload_n 1, 1) := by decide +kernel
theorem d_X1_sippedAsleep_51 : decode mX1_sippedAsleep.2.2.1 51 = .ok (.ireturn, 1) := by decide +kernel
theorem d_X1_sippedAsleep_17 : decode mX1_sippedAsleep.2.2.1 17 = .ok (.iload_n 1, 1) := by decide +kernel
theorem d_X1_sippedAsleep_18 : decode mX1_sippedAsleep.2.2.1 18 = .ok (.aload_n 0, 1) := by decide +kernel
theorem d_X1_sippedAsleep_19 : decode mX1_sippedAsleep.2.2.1 19 = .ok (.getfield 9, 3) := by decide +kernel
theorem d_X1_sippedAsleep_22 : decode mX1_sippedAsleep.2.2.1 22 = .ok (.iload_n 2, 1) := by decide +kernel
theorem d_X1_sippedAsleep_23 : decode mX1_sippedAsleep.2.2.1 23 = .ok (.iconst 4, 1) := by decide +kernel
theorem d_X1_sippedAsleep_24 : decode mX1_sippedAsleep.2.2.1 24 = .ok (.imul, 1) := by decide +kernel
theorem d_X1_sippedAsleep_25 : decode mX1_sippedAsleep.2.2.1 25 = .ok (.iconst 0, 1) := by decide +kernel
theorem d_X1_sippedAsleep_26 : decode mX1_sippedAsleep.2.2.1 26 = .ok (.iadd, 1) := by decide +kernel
theorem d_X1_sippedAsleep_27 : decode mX1_sippedAsleep.2.2.1 27 = .ok (.iaload, 1) := by decide +kernel
theorem d_X1_sippedAsleep_28 : decode mX1_sippedAsleep.2.2.1 28 = .ok (.aload_n 0, 1) := by decide +kernel
theorem d_X1_sippedAsleep_29 : decode mX1_sippedAsleep.2.2.1 29 = .ok (.getfield 41, 3) := by decide +kernel
theorem d_X1_sippedAsleep_32 : decode mX1_sippedAsleep.2.2.1 32 = .ok (.getfield 71, 3) := by decide +kernel
theorem d_X1_sippedAsleep_35 : decode mX1_sippedAsleep.2.2.1 35 = .ok (.iload_n 2, 1) := by decide +kernel
theorem d_X1_sippedAsleep_36 : decode mX1_sippedAsleep.2.2.1 36 = .ok (.iconst 4, 1) := by decide +kernel
theorem d_X1_sippedAsleep_37 : decode mX1_sippedAsleep.2.2.1 37 = .ok (.imul, 1) := by decide +kernel
theorem d_X1_sippedAsleep_38 : decode mX1_sippedAsleep.2.2.1 38 = .ok (.iconst 0, 1) := by decide +kernel
theorem d_X1_sippedAsleep_39 : decode mX1_sippedAsleep.2.2.1 39 = .ok (.iadd, 1) := by decide +kernel
theorem d_X1_sippedAsleep_40 : decode mX1_sippedAsleep.2.2.1 40 = .ok (.iaload, 1) := by decide +kernel
theorem d_X1_sippedAsleep_41 : decode mX1_sippedAsleep.2.2.1 41 = .ok (.imul, 1) := by decide +kernel
theorem d_X1_sippedAsleep_42 : decode mX1_sippedAsleep.2.2.1 42 = .ok (.iadd, 1) := by decide +kernel
theorem d_X1_sippedAsleep_43 : decode mX1_sippedAsleep.2.2.1 43 = .ok (.istore_n 1, 1) := by decide +kernel
theorem d_X1_sippedAsleep_44 : decode mX1_sippedAsleep.2.2.1 44 = .ok (.iinc 2 1, 3) := by decide +kernel
theorem d_X1_sippedAsleep_47 : decode mX1_sippedAsleep.2.2.1 47 = .ok (.goto (-43), 3) := by decide +kernel
theorem ok_X1_sippedAsleep : e_m mX1_sippedAsleep 0 := ⟨tblG_in (inT5 (List.mem_of_getElem? (i := 189) rfl)) rfl, plainFor_of_name (by decide), rfl, ini_1, by decide +kernel, by decide⟩
theorem d_X11_pays_33 : decode mX11_pays.2.2.1 33 = .ok (.ireturn, 1) := by decide +kernel
def mX11_stretches : MD := (11, yX11_stretches, cX11_stretches, 2, some .int)
theorem d_X11_stretches_0 : decode mX11_stretches.2.2.1 0 = .ok (.aload_n 0, 1) := by decide +kernel
theorem d_X11_stretches_1 : decode mX11_stretches.2.2.1 1 = .ok (.getfield 109, 3) := by decide +kernel
theorem d_X11_stretches_4 : decode mX11_stretches.2.2.1 4 = .ok (.ifCond .eq 11, 3) := by decide +kernel
theorem d_X11_stretches_15 : decode mX11_stretches.2.2.1 15 = .ok (.iconst (-1), 1) := by decide +kernel
theorem d_X11_stretches_16 : decode mX11_stretches.2.2.1 16 = .ok (.ireturn, 1) := by decide +kernel
theorem d_X11_stretches_7 : decode mX11_stretches.2.2.1 7 = .ok (.aload_n 0, 1) := by decide +kernel
theorem d_X11_stretches_8 : decode mX11_stretches.2.2.1 8 = .ok (.iload_n 1, 1) := by decide +kernel
theorem d_X11_stretches_9 : decode mX11_stretches.2.2.1 9 = .ok (.invokevirtual 174, 3) := by decide +kernel
theorem d_X11_stretches_12 : decode mX11_stretches.2.2.1 12 = .ok (.ifCond .ne 5, 3) := by decide +kernel
theorem d_X11_stretches_17 : decode mX11_stretches.2.2.1 17 = .ok (.aload_n 0, 1) := by decide +kernel
theorem d_X11_stretches_18 : decode mX11_stretches.2.2.1 18 = .ok (.getfield 46, 3) := by decide +kernel
theorem d_X11_stretches_21 : decode mX11_stretches.2.2.1 21 = .ok (.getfield 178, 3) := by decide +kernel
theorem d_X11_stretches_24 : decode mX11_stretches.2.2.1 24 = .ok (.getfield 201, 3) := by decide +kernel
theorem f_11_201 : e_fld 11 201 1 8 9 2 true := ⟨RX1, TX1, 8, rfl, rfl, by decide, rfl, rfl, rfl, iX1, tblG_in (inT2 (List.mem_of_getElem? (i := 78) rfl)) rfl, tyX1_ok, nmX1⟩
theorem d_X11_stretches_27 : decode mX11_stretches.2.2.1 27 = .ok (.iload_n 1, 1) := by decide +kernel
theorem d_X11_stretches_28 : decode mX11_stretches.2.2.1 28 = .ok (.invokevirtual 205, 3) := by decide +kernel
def mX8_countOf : MD := (8, yX8_countOf, cX8_countOf, 4, some .int)
theorem sel_X8_countOf : Cond.instanceMethod mX8_countOf.2.1 ∈ tblG ∧ Cond.selects mX8_countOf.2.1.cls mX8_countOf.2.1 mX8_countOf.2.1 ∈ tblG := ⟨tblG_in (inT5 (List.mem_of_getElem? (i := 216) rfl)) rfl, tblG_in (inT5 (List.mem_of_getElem? (i := 217) rfl)) rfl⟩
theorem s_11_205 : e_siteV 11 205 mX8_countOf 8 := ⟨tblG_in (inT5 (List.mem_of_getElem? (i := 215) rfl)) rfl, sel_X8_countOf.1, sel_X8_countOf.2, rfl⟩
theorem d_X8_countOf_0 : decode mX8_countOf.2.2.1 0 = .ok (.iconst 0, 1) := by decide +kernel
theorem d_X8_countOf_1 : decode mX8_countOf.2.2.1 1 = .ok (.istore_n 2, 1) := by decide +kernel
theorem d_X8_countOf_2 : decode mX8_countOf.2.2.1 2 = .ok (.iconst 0, 1) := by decide +kernel
theorem d_X8_countOf_3 : decode mX8_countOf.2.2.1 3 = .ok (.istore_n 3, 1) := by decide +kernel
theorem d_X8_countOf_4 : decode mX8_countOf.2.2.1 4 = .ok (.iload_n 3, 1) := by decide +kernel
theorem d_X8_countOf_5 : decode mX8_countOf.2.2.1 5 = .ok (.aload_n 0, 1) := by decide +kernel
theorem d_X8_countOf_6 : decode mX8_countOf.2.2.1 6 = .ok (.getfield 43, 3) := by decide +kernel
theorem f_8_43 : e_fld 8 43 8 0 12 0 false := ⟨RX8, TX8, 0, rfl, rfl, by decide, rfl, rfl, rfl, iX8, tblG_in (inT2 (List.mem_of_getElem? (i := 10) rfl)) rfl, tyX8_ok, nmX8⟩
theorem d_X8_countOf_9 : decode mX8_countOf.2.2.1 9 = .ok (.if_icmp .ge 22, 3) := by decide +kernel
theorem d_X8_countOf_31 : decode mX8_countOf.2.2.1 31 = .ok (.iload_n 2, 1) := by decide +kernel
theorem d_X8_countOf_32 : decode mX8_countOf.2.2.1 32 = .ok (.ireturn, 1) := by decide +kernel
theorem d_X8_countOf_12 : decode mX8_countOf.2.2.1 12 = .ok (.aload_n 0, 1) := by decide +kernel
theorem d_X8_countOf_13 : decode mX8_countOf.2.2.1 13 = .ok (.getfield 9, 3) := by decide +kernel
theorem d_X8_countOf_16 : decode mX8_countOf.2.2.1 16 = .ok (.iload_n 3, 1) := by decide +kernel
theorem d_X8_countOf_17 : decode mX8_countOf.2.2.1 17 = .ok (.iaload, 1) := by decide +kernel
theorem d_X8_countOf_18 : decode mX8_countOf.2.2.1 18 = .ok (.iload_n 1, 1) := by decide +kernel
theorem d_X8_countOf_19 : decode mX8_countOf.2.2.1 19 = .ok (.if_icmp .ne 6, 3) := by decide +kernel
theorem d_X8_countOf_22 : decode mX8_countOf.2.2.1 22 = .ok (.iinc 2 1, 3) := by decide +kernel
theorem d_X8_countOf_25 : decode mX8_countOf.2.2.1 25 = .ok (.iinc 3 1, 3) := by decide +kernel
theorem d_X8_countOf_28 : decode mX8_countOf.2.2.1 28 = .ok (.goto (-24), 3) := by decide +kernel
theorem ok_X8_countOf : e_m mX8_countOf 1 := ⟨tblG_in (inT5 (List.mem_of_getElem? (i := 218) rfl)) rfl, plainFor_of_name (by decide), rfl, ini_8, by decide +kernel, by decide⟩
theorem d_X11_stretches_31 : decode mX11_stretches.2.2.1 31 = .ok (.ireturn, 1) := by decide +kernel
def mX11_stretch : MD := (11, yX11_stretch, cX11_stretch, 6, some .int)
theorem d_X11_stretch_0 : decode mX11_stretch.2.2.1 0 = .ok (.aload_n 0, 1) := by decide +kernel
theorem d_X11_stretch_1 : decode mX11_stretch.2.2.1 1 = .ok (.iload_n 1, 1) := by decide +kernel
theorem d_X11_stretch_2 : decode mX11_stretch.2.2.1 2 = .ok (.iload_n 2, 1) := by decide +kernel
theorem d_X11_stretch_3 : decode mX11_stretch.2.2.1 3 = .ok (.invokevirtual 214, 3) := by decide +kernel
def mX11_stretchPlace : MD := (11, yX11_stretchPlace, cX11_stretchPlace, 3, some .int)
theorem sel_X11_stretchPlace : Cond.instanceMethod mX11_stretchPlace.2.1 ∈ tblG ∧ Cond.selects mX11_stretchPlace.2.1.cls mX11_stretchPlace.2.1 mX11_stretchPlace.2.1 ∈ tblG := ⟨tblG_in (inT5 (List.mem_of_getElem? (i := 225) rfl)) rfl, tblG_in (inP4 (q := (mX11_stretchPlace.2.1, 14)) (List.mem_of_getElem? (i := 12) rfl)) rfl⟩
theorem s_11_214 : e_siteV 11 214 mX11_stretchPlace 11 := ⟨tblG_in (inT5 (List.mem_of_getElem? (i := 223) rfl)) rfl, sel_X11_stretchPlace.1, sel_X11_stretchPlace.2, rfl⟩
theorem d_X11_stretchPlace_0 : decode mX11_stretchPlace.2.2.1 0 = .ok (.aload_n 0, 1) := by decide +kernel
theorem d_X11_stretchPlace_1 : decode mX11_stretchPlace.2.2.1 1 = .ok (.getfield 109, 3) := by decide +kernel
theorem d_X11_stretchPlace_4 : decode mX11_stretchPlace.2.2.1 4 = .ok (.ifCond .eq 15, 3) := by decide +kernel
theorem d_X11_stretchPlace_19 : decode mX11_stretchPlace.2.2.1 19 = .ok (.iconst (-1), 1) := by decide +kernel
theorem d_X11_stretchPlace_20 : decode mX11_stretchPlace.2.2.1 20 = .ok (.ireturn, 1) := by decide +kernel
theorem ok_X11_stretchPlace : e_m mX11_stretchPlace 2 := ⟨tblG_in (inT5 (List.mem_of_getElem? (i := 226) rfl)) rfl, plainFor_of_name (by decide), rfl, ini_11, by decide +kernel, by decide⟩
theorem d_X11_stretch_6 : decode mX11_stretch.2.2.1 6 = .ok (.istore 4, 2) := by decide +kernel
theorem d_X11_stretch_8 : decode mX11_stretch.2.2.1 8 = .ok (.iload 4, 2) := by decide +kernel
theorem d_X11_stretch_10 : decode mX11_stretch.2.2.1 10 = .ok (.ifCond .ge 5, 3) := by decide +kernel
theorem d_X11_stretch_13 : decode mX11_stretch.2.2.1 13 = .ok (.iconst (-1), 1) := by decide +kernel
theorem d_X11_stretch_14 : decode mX11_stretch.2.2.1 14 = .ok (.ireturn, 1) := by decide +kernel
theorem d_X11_stretchPlace_7 : decode mX11_stretchPlace.2.2.1 7 = .ok (.aload_n 0, 1) := by decide +kernel
theorem d_X11_stretchPlace_8 : decode mX11_stretchPlace.2.2.1 8 = .ok (.iload_n 1, 1) := by decide +kernel
theorem d_X11_stretchPlace_9 : decode mX11_stretchPlace.2.2.1 9 = .ok (.invokevirtual 174, 3) := by decide +kernel
theorem d_X11_stretchPlace_12 : decode mX11_stretchPlace.2.2.1 12 = .ok (.ifCond .eq 7, 3) := by decide +kernel
theorem d_X11_stretchPlace_15 : decode mX11_stretchPlace.2.2.1 15 = .ok (.iload_n 2, 1) := by decide +kernel
theorem d_X11_stretchPlace_16 : decode mX11_stretchPlace.2.2.1 16 = .ok (.ifCond .ge 5, 3) := by decide +kernel
theorem d_X11_stretchPlace_21 : decode mX11_stretchPlace.2.2.1 21 = .ok (.aload_n 0, 1) := by decide +kernel
theorem d_X11_stretchPlace_22 : decode mX11_stretchPlace.2.2.1 22 = .ok (.getfield 46, 3) := by decide +kernel
theorem d_X11_stretchPlace_25 : decode mX11_stretchPlace.2.2.1 25 = .ok (.getfield 178, 3) := by decide +kernel
theorem d_X11_stretchPlace_28 : decode mX11_stretchPlace.2.2.1 28 = .ok (.getfield 201, 3) := by decide +kernel
theorem d_X11_stretchPlace_31 : decode mX11_stretchPlace.2.2.1 31 = .ok (.iload_n 1, 1) := by decide +kernel
theorem d_X11_stretchPlace_32 : decode mX11_stretchPlace.2.2.1 32 = .ok (.iload_n 2, 1) := by decide +kernel
theorem d_X11_stretchPlace_33 : decode mX11_stretchPlace.2.2.1 33 = .ok (.invokevirtual 210, 3) := by decide +kernel
def mX8_placeOf : MD := (8, yX8_placeOf, cX8_placeOf, 5, some .int)
theorem sel_X8_placeOf : Cond.instanceMethod mX8_placeOf.2.1 ∈ tblG ∧ Cond.selects mX8_placeOf.2.1.cls mX8_placeOf.2.1 mX8_placeOf.2.1 ∈ tblG := ⟨tblG_in (inT5 (List.mem_of_getElem? (i := 228) rfl)) rfl, tblG_in (inT5 (List.mem_of_getElem? (i := 229) rfl)) rfl⟩
theorem s_11_210 : e_siteV 11 210 mX8_placeOf 8 := ⟨tblG_in (inT5 (List.mem_of_getElem? (i := 227) rfl)) rfl, sel_X8_placeOf.1, sel_X8_placeOf.2, rfl⟩
theorem d_X8_placeOf_0 : decode mX8_placeOf.2.2.1 0 = .ok (.iconst 0, 1) := by decide +kernel
theorem d_X8_placeOf_1 : decode mX8_placeOf.2.2.1 1 = .ok (.istore_n 3, 1) := by decide +kernel
theorem d_X8_placeOf_2 : decode mX8_placeOf.2.2.1 2 = .ok (.iconst 0, 1) := by decide +kernel
theorem d_X8_placeOf_3 : decode mX8_placeOf.2.2.1 3 = .ok (.istore 4, 2) := by decide +kernel
theorem d_X8_placeOf_5 : decode mX8_placeOf.2.2.1 5 = .ok (.iload 4, 2) := by decide +kernel
theorem d_X8_placeOf_7 : decode mX8_placeOf.2.2.1 7 = .ok (.aload_n 0, 1) := by decide +kernel
theorem d_X8_placeOf_8 : decode mX8_placeOf.2.2.1 8 = .ok (.getfield 43, 3) := by decide +kernel
theorem d_X8_placeOf_11 : decode mX8_placeOf.2.2.1 11 = .ok (.if_icmp .ge 31, 3) := by decide +kernel
theorem d_X8_placeOf_42 : decode mX8_placeOf.2.2.1 42 = .ok (.iconst (-1), 1) := by decide +kernel
theorem d_X8_placeOf_43 : decode mX8_placeOf.2.2.1 43 = .ok (.ireturn, 1) := by decide +kernel
theorem d_X8_placeOf_14 : decode mX8_placeOf.2.2.1 14 = .ok (.aload_n 0, 1) := by decide +kernel
theorem d_X8_placeOf_15 : decode mX8_placeOf.2.2.1 15 = .ok (.getfield 9, 3) := by decide +kernel
theorem d_X8_placeOf_18 : decode mX8_placeOf.2.2.1 18 = .ok (.iload 4, 2) := by decide +kernel
theorem d_X8_placeOf_20 : decode mX8_placeOf.2.2.1 20 = .ok (.iaload, 1) := by decide +kernel
theorem d_X8_placeOf_21 : decode mX8_placeOf.2.2.1 21 = .ok (.iload_n 1, 1) := by decide +kernel
theorem d_X8_placeOf_22 : decode mX8_placeOf.2.2.1 22 = .ok (.if_icmp .ne 14, 3) := by decide +kernel
theorem d_X8_placeOf_25 : decode mX8_placeOf.2.2.1 25 = .ok (.iload_n 3, 1) := by decide +kernel
theorem d_X8_placeOf_26 : decode mX8_placeOf.2.2.1 26 = .ok (.iload_n 2, 1) := by decide +kernel
theorem d_X8_placeOf_27 : decode mX8_placeOf.2.2.1 27 = .ok (.if_icmp .ne 6, 3) := by decide +kernel
theorem d_X8_placeOf_33 : decode mX8_placeOf.2.2.1 33 = .ok (.iinc 3 1, 3) := by decide +kernel
theorem d_X8_placeOf_30 : decode mX8_placeOf.2.2.1 30 = .ok (.iload 4, 2) := by decide +kernel
theorem d_X8_placeOf_32 : decode mX8_placeOf.2.2.1 32 = .ok (.ireturn, 1) := by decide +kernel
theorem d_X8_placeOf_36 : decode mX8_placeOf.2.2.1 36 = .ok (.iinc 4 1, 3) := by decide +kernel
theorem d_X8_placeOf_39 : decode mX8_placeOf.2.2.1 39 = .ok (.goto (-34), 3) := by decide +kernel
theorem ok_X8_placeOf : e_m mX8_placeOf 2 := ⟨tblG_in (inT5 (List.mem_of_getElem? (i := 230) rfl)) rfl, plainFor_of_name (by decide), rfl, ini_8, by decide +kernel, by decide⟩
theorem d_X11_stretchPlace_36 : decode mX11_stretchPlace.2.2.1 36 = .ok (.ireturn, 1) := by decide +kernel
theorem d_X11_stretch_15 : decode mX11_stretch.2.2.1 15 = .ok (.aload_n 0, 1) := by decide +kernel
theorem d_X11_stretch_16 : decode mX11_stretch.2.2.1 16 = .ok (.getfield 46, 3) := by decide +kernel
theorem d_X11_stretch_19 : decode mX11_stretch.2.2.1 19 = .ok (.getfield 178, 3) := by decide +kernel
theorem d_X11_stretch_22 : decode mX11_stretch.2.2.1 22 = .ok (.getfield 201, 3) := by decide +kernel
theorem d_X11_stretch_25 : decode mX11_stretch.2.2.1 25 = .ok (.astore 5, 2) := by decide +kernel
theorem d_X11_stretch_27 : decode mX11_stretch.2.2.1 27 = .ok (.iload_n 3, 1) := by decide +kernel
theorem d_X11_stretch_28 : decode mX11_stretch.2.2.1 28 = .ok (.tableswitch 55 0 2 #[28, 37, 46], 28) := by decide +kernel
theorem d_X11_stretch_83 : decode mX11_stretch.2.2.1 83 = .ok (.iconst (-1), 1) := by decide +kernel
theorem d_X11_stretch_84 : decode mX11_stretch.2.2.1 84 = .ok (.ireturn, 1) := by decide +kernel
theorem d_X11_stretch_74 : decode mX11_stretch.2.2.1 74 = .ok (.aload 5, 2) := by decide +kernel
theorem d_X11_stretch_76 : decode mX11_stretch.2.2.1 76 = .ok (.getfield 223, 3) := by decide +kernel
theorem f_11_223 : e_fld 11 223 8 4 12 2 false := ⟨RX8, TX8, 4, rfl, rfl, by decide, rfl, rfl, rfl, iX8, tblG_in (inT2 (List.mem_of_getElem? (i := 23) rfl)) rfl, tyX8_ok, nmX8⟩
theorem d_X11_stretch_79 : decode mX11_stretch.2.2.1 79 = .ok (.iload 4, 2) := by decide +kernel
theorem d_X11_stretch_81 : decode mX11_stretch.2.2.1 81 = .ok (.iaload, 1) := by decide +kernel
theorem d_X11_stretch_82 : decode mX11_stretch.2.2.1 82 = .ok (.ireturn, 1) := by decide +kernel
theorem d_X11_stretch_65 : decode mX11_stretch.2.2.1 65 = .ok (.aload 5, 2) := by decide +kernel
theorem d_X11_stretch_67 : decode mX11_stretch.2.2.1 67 = .ok (.getfield 220, 3) := by decide +kernel
theorem f_11_220 : e_fld 11 220 8 3 12 2 false := ⟨RX8, TX8, 3, rfl, rfl, by decide, rfl, rfl, rfl, iX8, tblG_in (inT2 (List.mem_of_getElem? (i := 20) rfl)) rfl, tyX8_ok, nmX8⟩
theorem d_X11_stretch_70 : decode mX11_stretch.2.2.1 70 = .ok (.iload 4, 2) := by decide +kernel
theorem d_X11_stretch_72 : decode mX11_stretch.2.2.1 72 = .ok (.iaload, 1) := by decide +kernel
theorem d_X11_stretch_73 : decode mX11_stretch.2.2.1 73 = .ok (.ireturn, 1) := by decide +kernel
theorem d_X11_stretch_56 : decode mX11_stretch.2.2.1 56 = .ok (.aload 5, 2) := by decide +kernel
theorem d_X11_stretch_58 : decode mX11_stretch.2.2.1 58 = .ok (.getfield 217, 3) := by decide +kernel
theorem f_11_217 : e_fld 11 217 8 2 12 2 false := ⟨RX8, TX8, 2, rfl, rfl, by decide, rfl, rfl, rfl, iX8, tblG_in (inT2 (List.mem_of_getElem? (i := 17) rfl)) rfl, tyX8_ok, nmX8⟩
theorem d_X11_stretch_61 : decode mX11_stretch.2.2.1 61 = .ok (.iload 4, 2) := by decide +kernel
theorem d_X11_stretch_63 : decode mX11_stretch.2.2.1 63 = .ok (.iaload, 1) := by decide +kernel
theorem d_X11_stretch_64 : decode mX11_stretch.2.2.1 64 = .ok (.ireturn, 1) := by decide +kernel
def mX11_lines : MD := (11, yX11_lines, cX11_lines, 4, some .long)
theorem d_X11_lines_0 : decode mX11_lines.2.2.1 0 = .ok (.aload_n 0, 1) := by decide +kernel
theorem d_X11_lines_1 : decode mX11_lines.2.2.1 1 = .ok (.iload_n 1, 1) := by decide +kernel
theorem d_X11_lines_2 : decode mX11_lines.2.2.1 2 = .ok (.iload_n 2, 1) := by decide +kernel
theorem d_X11_lines_3 : decode mX11_lines.2.2.1 3 = .ok (.invokevirtual 214, 3) := by decide +kernel
theorem d_X11_lines_6 : decode mX11_lines.2.2.1 6 = .ok (.istore_n 3, 1) := by decide +kernel
theorem d_X11_lines_7 : decode mX11_lines.2.2.1 7 = .ok (.iload_n 3, 1) := by decide +kernel
theorem d_X11_lines_8 : decode mX11_lines.2.2.1 8 = .ok (.ifCond .ge 7, 3) := by decide +kernel
theorem d_X11_lines_11 : decode mX11_lines.2.2.1 11 = .ok (.lconst 0, 1) := by decide +kernel
theorem d_X11_lines_12 : decode mX11_lines.2.2.1 12 = .ok (.goto 18, 3) := by decide +kernel
theorem d_X11_lines_30 : decode mX11_lines.2.2.1 30 = .ok (.lreturn, 1) := by decide +kernel
theorem d_X11_lines_15 : decode mX11_lines.2.2.1 15 = .ok (.aload_n 0, 1) := by decide +kernel
theorem d_X11_lines_16 : decode mX11_lines.2.2.1 16 = .ok (.getfield 46, 3) := by decide +kernel
theorem d_X11_lines_19 : decode mX11_lines.2.2.1 19 = .ok (.getfield 178, 3) := by decide +kernel
theorem d_X11_lines_22 : decode mX11_lines.2.2.1 22 = .ok (.getfield 201, 3) := by decide +kernel
theorem d_X11_lines_25 : decode mX11_lines.2.2.1 25 = .ok (.getfield 226, 3) := by decide +kernel
theorem f_11_226 : e_fld 11 226 8 5 12 2 false := ⟨RX8, TX8, 5, rfl, rfl, by decide, rfl, rfl, rfl, iX8, tblG_in (inT2 (List.mem_of_getElem? (i := 27) rfl)) rfl, tyX8_ok, nmX8⟩
theorem d_X11_lines_28 : decode mX11_lines.2.2.1 28 = .ok (.iload_n 3, 1) := by decide +kernel
theorem d_X11_lines_29 : decode mX11_lines.2.2.1 29 = .ok (.laload, 1) := by decide +kernel
def mX11_byTurns : MD := (11, yX11_byTurns, cX11_byTurns, 8, some .long)
theorem d_X11_byTurns_0 : decode mX11_byTurns.2.2.1 0 = .ok (.aload_n 0, 1) := by decide +kernel
theorem d_X11_byTurns_1 : decode mX11_byTurns.2.2.1 1 = .ok (.iload_n 1, 1) := by decide +kernel
theorem d_X11_byTurns_2 : decode mX11_byTurns.2.2.1 2 = .ok (.iload_n 2, 1) := by decide +kernel
theorem d_X11_byTurns_3 : decode mX11_byTurns.2.2.1 3 = .ok (.invokevirtual 214, 3) := by decide +kernel
theorem d_X11_byTurns_6 : decode mX11_byTurns.2.2.1 6 = .ok (.istore 5, 2) := by decide +kernel
theorem d_X11_byTurns_8 : decode mX11_byTurns.2.2.1 8 = .ok (.iload 5, 2) := by decide +kernel
theorem d_X11_byTurns_10 : decode mX11_byTurns.2.2.1 10 = .ok (.ifCond .lt 11, 3) := by decide +kernel
theorem d_X11_byTurns_21 : decode mX11_byTurns.2.2.1 21 = .ok (.ldc2_w 230, 3) := by decide +kernel
