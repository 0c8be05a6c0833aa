/-! 35.02 -/
section
theorem d_X12_sharesOf_0 : decode mX12_sharesOf.2.2.1 0 = .ok (.lconst 0, 1) := by decide +kernel
theorem d_X12_sharesOf_1 : decode mX12_sharesOf.2.2.1 1 = .ok (.lstore_n 3, 1) := by decide +kernel
theorem d_X12_sharesOf_2 : decode mX12_sharesOf.2.2.1 2 = .ok (.iconst 1, 1) := by decide +kernel
theorem d_X12_sharesOf_3 : decode mX12_sharesOf.2.2.1 3 = .ok (.istore 5, 2) := by decide +kernel
theorem d_X12_sharesOf_5 : decode mX12_sharesOf.2.2.1 5 = .ok (.iconst 0, 1) := by decide +kernel
theorem d_X12_sharesOf_6 : decode mX12_sharesOf.2.2.1 6 = .ok (.istore 6, 2) := by decide +kernel
theorem d_X12_sharesOf_8 : decode mX12_sharesOf.2.2.1 8 = .ok (.iload 5, 2) := by decide +kernel
theorem d_X12_sharesOf_10 : decode mX12_sharesOf.2.2.1 10 = .ok (.ifCond .eq 107, 3) := by decide +kernel
theorem d_X12_sharesOf_13 : decode mX12_sharesOf.2.2.1 13 = .ok (.aload_n 0, 1) := by decide +kernel
theorem d_X12_sharesOf_14 : decode mX12_sharesOf.2.2.1 14 = .ok (.iload_n 1, 1) := by decide +kernel
theorem d_X12_sharesOf_15 : decode mX12_sharesOf.2.2.1 15 = .ok (.iload 6, 2) := by decide +kernel
theorem d_X12_sharesOf_17 : decode mX12_sharesOf.2.2.1 17 = .ok (.invokevirtual 644, 3) := by decide +kernel
def mX12_finds : MD := (12, yX12_finds, cX12_finds, 5, some .boolean)
theorem sel_X12_finds : Cond.instanceMethod mX12_finds.2.1 ∈ tblG ∧ Cond.selects mX12_finds.2.1.cls mX12_finds.2.1 mX12_finds.2.1 ∈ tblG := ⟨tblG_in (inT9 (List.mem_of_getElem? (i := 152) rfl)) rfl, tblG_in (inP8 (q := (mX12_finds.2.1, 121)) (List.mem_of_getElem? (i := 11) rfl)) rfl⟩
theorem s_12_644 : e_siteV 12 644 mX12_finds 12 := ⟨tblG_in (inT9 (List.mem_of_getElem? (i := 150) rfl)) rfl, sel_X12_finds.1, sel_X12_finds.2, rfl⟩
theorem d_X12_finds_0 : decode mX12_finds.2.2.1 0 = .ok (.iconst 0, 1) := by decide +kernel
theorem d_X12_finds_1 : decode mX12_finds.2.2.1 1 = .ok (.istore_n 3, 1) := by decide +kernel
theorem d_X12_finds_2 : decode mX12_finds.2.2.1 2 = .ok (.iconst 0, 1) := by decide +kernel
theorem d_X12_finds_3 : decode mX12_finds.2.2.1 3 = .ok (.istore 4, 2) := by decide +kernel
theorem d_X12_finds_5 : decode mX12_finds.2.2.1 5 = .ok (.iload 4, 2) := by decide +kernel
theorem d_X12_finds_7 : decode mX12_finds.2.2.1 7 = .ok (.aload_n 0, 1) := by decide +kernel
theorem d_X12_finds_8 : decode mX12_finds.2.2.1 8 = .ok (.getfield 273, 3) := by decide +kernel
theorem d_X12_finds_11 : decode mX12_finds.2.2.1 11 = .ok (.if_icmp .ge 69, 3) := by decide +kernel
theorem d_X12_finds_80 : decode mX12_finds.2.2.1 80 = .ok (.aload_n 0, 1) := by decide +kernel
theorem d_X12_finds_81 : decode mX12_finds.2.2.1 81 = .ok (.iload_n 3, 1) := by decide +kernel
theorem d_X12_finds_82 : decode mX12_finds.2.2.1 82 = .ok (.putfield 312, 3) := by decide +kernel
theorem d_X12_finds_85 : decode mX12_finds.2.2.1 85 = .ok (.iconst 0, 1) := by decide +kernel
theorem d_X12_finds_86 : decode mX12_finds.2.2.1 86 = .ok (.ireturn, 1) := by decide +kernel
theorem d_X12_finds_14 : decode mX12_finds.2.2.1 14 = .ok (.aload_n 0, 1) := by decide +kernel
theorem d_X12_finds_15 : decode mX12_finds.2.2.1 15 = .ok (.iload_n 1, 1) := by decide +kernel
theorem d_X12_finds_16 : decode mX12_finds.2.2.1 16 = .ok (.iload 4, 2) := by decide +kernel
theorem d_X12_finds_18 : decode mX12_finds.2.2.1 18 = .ok (.invokevirtual 641, 3) := by decide +kernel
def mX12_stateAt : MD := (12, yX12_stateAt, cX12_stateAt, 3, some .int)
theorem sel_X12_stateAt : Cond.instanceMethod mX12_stateAt.2.1 ∈ tblG ∧ Cond.selects mX12_stateAt.2.1.cls mX12_stateAt.2.1 mX12_stateAt.2.1 ∈ tblG := ⟨tblG_in (inT9 (List.mem_of_getElem? (i := 156) rfl)) rfl, tblG_in (inP8 (q := (mX12_stateAt.2.1, 121)) (List.mem_of_getElem? (i := 12) rfl)) rfl⟩
theorem s_12_641 : e_siteV 12 641 mX12_stateAt 12 := ⟨tblG_in (inT9 (List.mem_of_getElem? (i := 154) rfl)) rfl, sel_X12_stateAt.1, sel_X12_stateAt.2, rfl⟩
theorem d_X12_stateAt_0 : decode mX12_stateAt.2.2.1 0 = .ok (.aload_n 0, 1) := by decide +kernel
theorem d_X12_stateAt_1 : decode mX12_stateAt.2.2.1 1 = .ok (.getfield 231, 3) := by decide +kernel
theorem d_X12_stateAt_4 : decode mX12_stateAt.2.2.1 4 = .ok (.sipush 2100, 3) := by decide +kernel
theorem d_X12_stateAt_7 : decode mX12_stateAt.2.2.1 7 = .ok (.iload_n 1, 1) := by decide +kernel
theorem d_X12_stateAt_8 : decode mX12_stateAt.2.2.1 8 = .ok (.imul, 1) := by decide +kernel
theorem d_X12_stateAt_9 : decode mX12_stateAt.2.2.1 9 = .ok (.iload_n 2, 1) := by decide +kernel
theorem d_X12_stateAt_10 : decode mX12_stateAt.2.2.1 10 = .ok (.iadd, 1) := by decide +kernel
theorem d_X12_stateAt_11 : decode mX12_stateAt.2.2.1 11 = .ok (.iaload, 1) := by decide +kernel
theorem d_X12_stateAt_12 : decode mX12_stateAt.2.2.1 12 = .ok (.ireturn, 1) := by decide +kernel
theorem ok_X12_stateAt : e_m mX12_stateAt 2 := ⟨tblG_in (inT9 (List.mem_of_getElem? (i := 157) rfl)) rfl, plainFor_of_name (by decide), rfl, ini_12, by decide +kernel, by decide⟩
theorem d_X12_finds_21 : decode mX12_finds.2.2.1 21 = .ok (.ifCond .ne 9, 3) := by decide +kernel
theorem d_X12_finds_30 : decode mX12_finds.2.2.1 30 = .ok (.aload_n 0, 1) := by decide +kernel
theorem d_X12_finds_31 : decode mX12_finds.2.2.1 31 = .ok (.iload 4, 2) := by decide +kernel
theorem d_X12_finds_33 : decode mX12_finds.2.2.1 33 = .ok (.putfield 306, 3) := by decide +kernel
theorem d_X12_finds_24 : decode mX12_finds.2.2.1 24 = .ok (.iinc 4 1, 3) := by decide +kernel
theorem d_X12_finds_27 : decode mX12_finds.2.2.1 27 = .ok (.goto (-22), 3) := by decide +kernel
theorem d_X12_finds_36 : decode mX12_finds.2.2.1 36 = .ok (.iload 4, 2) := by decide +kernel
theorem d_X12_finds_38 : decode mX12_finds.2.2.1 38 = .ok (.aload_n 0, 1) := by decide +kernel
theorem d_X12_finds_39 : decode mX12_finds.2.2.1 39 = .ok (.getfield 273, 3) := by decide +kernel
theorem d_X12_finds_42 : decode mX12_finds.2.2.1 42 = .ok (.if_icmp .ge 19, 3) := by decide +kernel
theorem d_X12_finds_45 : decode mX12_finds.2.2.1 45 = .ok (.aload_n 0, 1) := by decide +kernel
theorem d_X12_finds_46 : decode mX12_finds.2.2.1 46 = .ok (.iload_n 1, 1) := by decide +kernel
theorem d_X12_finds_47 : decode mX12_finds.2.2.1 47 = .ok (.iload 4, 2) := by decide +kernel
theorem d_X12_finds_49 : decode mX12_finds.2.2.1 49 = .ok (.invokevirtual 641, 3) := by decide +kernel
theorem d_X12_finds_52 : decode mX12_finds.2.2.1 52 = .ok (.ifCond .eq 9, 3) := by decide +kernel
theorem d_X12_finds_55 : decode mX12_finds.2.2.1 55 = .ok (.iinc 4 1, 3) := by decide +kernel
theorem d_X12_finds_58 : decode mX12_finds.2.2.1 58 = .ok (.goto (-22), 3) := by decide +kernel
theorem d_X12_finds_61 : decode mX12_finds.2.2.1 61 = .ok (.aload_n 0, 1) := by decide +kernel
theorem d_X12_finds_62 : decode mX12_finds.2.2.1 62 = .ok (.iload 4, 2) := by decide +kernel
theorem d_X12_finds_64 : decode mX12_finds.2.2.1 64 = .ok (.putfield 309, 3) := by decide +kernel
theorem d_X12_finds_67 : decode mX12_finds.2.2.1 67 = .ok (.iload_n 3, 1) := by decide +kernel
theorem d_X12_finds_68 : decode mX12_finds.2.2.1 68 = .ok (.iload_n 2, 1) := by decide +kernel
theorem d_X12_finds_69 : decode mX12_finds.2.2.1 69 = .ok (.if_icmp .ne 5, 3) := by decide +kernel
theorem d_X12_finds_74 : decode mX12_finds.2.2.1 74 = .ok (.iinc 3 1, 3) := by decide +kernel
theorem d_X12_finds_77 : decode mX12_finds.2.2.1 77 = .ok (.goto (-72), 3) := by decide +kernel
theorem d_X12_finds_72 : decode mX12_finds.2.2.1 72 = .ok (.iconst 1, 1) := by decide +kernel
theorem d_X12_finds_73 : decode mX12_finds.2.2.1 73 = .ok (.ireturn, 1) := by decide +kernel
theorem ok_X12_finds : e_m mX12_finds 2 := ⟨tblG_in (inT9 (List.mem_of_getElem? (i := 153) rfl)) rfl, plainFor_of_name (by decide), rfl, ini_12, by decide +kernel, by decide⟩
theorem d_X12_sharesOf_20 : decode mX12_sharesOf.2.2.1 20 = .ok (.istore 5, 2) := by decide +kernel
theorem d_X12_sharesOf_22 : decode mX12_sharesOf.2.2.1 22 = .ok (.iload 5, 2) := by decide +kernel
theorem d_X12_sharesOf_24 : decode mX12_sharesOf.2.2.1 24 = .ok (.ifCond .ne 6, 3) := by decide +kernel
theorem d_X12_sharesOf_30 : decode mX12_sharesOf.2.2.1 30 = .ok (.aload_n 0, 1) := by decide +kernel
theorem d_X12_sharesOf_31 : decode mX12_sharesOf.2.2.1 31 = .ok (.iload_n 1, 1) := by decide +kernel
theorem d_X12_sharesOf_32 : decode mX12_sharesOf.2.2.1 32 = .ok (.invokevirtual 650, 3) := by decide +kernel
def mX12_linesIn : MD := (12, yX12_linesIn, cX12_linesIn, 5, some .long)
theorem sel_X12_linesIn : Cond.instanceMethod mX12_linesIn.2.1 ∈ tblG ∧ Cond.selects mX12_linesIn.2.1.cls mX12_linesIn.2.1 mX12_linesIn.2.1 ∈ tblG := ⟨tblG_in (inT9 (List.mem_of_getElem? (i := 172) rfl)) rfl, tblG_in (inP8 (q := (mX12_linesIn.2.1, 121)) (List.mem_of_getElem? (i := 14) rfl)) rfl⟩
theorem s_12_650 : e_siteV 12 650 mX12_linesIn 12 := ⟨tblG_in (inT9 (List.mem_of_getElem? (i := 170) rfl)) rfl, sel_X12_linesIn.1, sel_X12_linesIn.2, rfl⟩
theorem d_X12_linesIn_0 : decode mX12_linesIn.2.2.1 0 = .ok (.lconst 0, 1) := by decide +kernel
theorem d_X12_linesIn_1 : decode mX12_linesIn.2.2.1 1 = .ok (.lstore_n 2, 1) := by decide +kernel
theorem d_X12_linesIn_2 : decode mX12_linesIn.2.2.1 2 = .ok (.iconst 0, 1) := by decide +kernel
theorem d_X12_linesIn_3 : decode mX12_linesIn.2.2.1 3 = .ok (.istore 4, 2) := by decide +kernel
theorem d_X12_linesIn_5 : decode mX12_linesIn.2.2.1 5 = .ok (.iload 4, 2) := by decide +kernel
theorem d_X12_linesIn_7 : decode mX12_linesIn.2.2.1 7 = .ok (.aload_n 0, 1) := by decide +kernel
theorem d_X12_linesIn_8 : decode mX12_linesIn.2.2.1 8 = .ok (.getfield 300, 3) := by decide +kernel
theorem d_X12_linesIn_11 : decode mX12_linesIn.2.2.1 11 = .ok (.if_icmp .ge 62, 3) := by decide +kernel
theorem d_X12_linesIn_73 : decode mX12_linesIn.2.2.1 73 = .ok (.lload_n 2, 1) := by decide +kernel
theorem d_X12_linesIn_74 : decode mX12_linesIn.2.2.1 74 = .ok (.lreturn, 1) := by decide +kernel
theorem d_X12_linesIn_14 : decode mX12_linesIn.2.2.1 14 = .ok (.aload_n 0, 1) := by decide +kernel
theorem d_X12_linesIn_15 : decode mX12_linesIn.2.2.1 15 = .ok (.getfield 243, 3) := by decide +kernel
theorem d_X12_linesIn_18 : decode mX12_linesIn.2.2.1 18 = .ok (.iload 4, 2) := by decide +kernel
theorem d_X12_linesIn_20 : decode mX12_linesIn.2.2.1 20 = .ok (.iaload, 1) := by decide +kernel
theorem d_X12_linesIn_21 : decode mX12_linesIn.2.2.1 21 = .ok (.iload_n 1, 1) := by decide +kernel
theorem d_X12_linesIn_22 : decode mX12_linesIn.2.2.1 22 = .ok (.if_icmp .ne 45, 3) := by decide +kernel
theorem d_X12_linesIn_25 : decode mX12_linesIn.2.2.1 25 = .ok (.aload_n 0, 1) := by decide +kernel
theorem d_X12_linesIn_26 : decode mX12_linesIn.2.2.1 26 = .ok (.getfield 249, 3) := by decide +kernel
theorem d_X12_linesIn_29 : decode mX12_linesIn.2.2.1 29 = .ok (.iload 4, 2) := by decide +kernel
theorem d_X12_linesIn_31 : decode mX12_linesIn.2.2.1 31 = .ok (.iaload, 1) := by decide +kernel
theorem d_X12_linesIn_32 : decode mX12_linesIn.2.2.1 32 = .ok (.aload_n 0, 1) := by decide +kernel
theorem d_X12_linesIn_33 : decode mX12_linesIn.2.2.1 33 = .ok (.getfield 306, 3) := by decide +kernel
theorem d_X12_linesIn_36 : decode mX12_linesIn.2.2.1 36 = .ok (.iconst 1, 1) := by decide +kernel
theorem d_X12_linesIn_37 : decode mX12_linesIn.2.2.1 37 = .ok (.isub, 1) := by decide +kernel
theorem d_X12_linesIn_38 : decode mX12_linesIn.2.2.1 38 = .ok (.if_icmp .lt 29, 3) := by decide +kernel
theorem d_X12_linesIn_41 : decode mX12_linesIn.2.2.1 41 = .ok (.aload_n 0, 1) := by decide +kernel
theorem d_X12_linesIn_42 : decode mX12_linesIn.2.2.1 42 = .ok (.getfield 249, 3) := by decide +kernel
theorem d_X12_linesIn_45 : decode mX12_linesIn.2.2.1 45 = .ok (.iload 4, 2) := by decide +kernel
theorem d_X12_linesIn_47 : decode mX12_linesIn.2.2.1 47 = .ok (.iaload, 1) := by decide +kernel
theorem d_X12_linesIn_48 : decode mX12_linesIn.2.2.1 48 = .ok (.aload_n 0, 1) := by decide +kernel
theorem d_X12_linesIn_49 : decode mX12_linesIn.2.2.1 49 = .ok (.getfield 309, 3) := by decide +kernel
theorem d_X12_linesIn_52 : decode mX12_linesIn.2.2.1 52 = .ok (.if_icmp .ge 15, 3) := by decide +kernel
theorem d_X12_linesIn_55 : decode mX12_linesIn.2.2.1 55 = .ok (.lload_n 2, 1) := by decide +kernel
theorem d_X12_linesIn_56 : decode mX12_linesIn.2.2.1 56 = .ok (.lconst 1, 1) := by decide +kernel
theorem d_X12_linesIn_57 : decode mX12_linesIn.2.2.1 57 = .ok (.aload_n 0, 1) := by decide +kernel
theorem d_X12_linesIn_58 : decode mX12_linesIn.2.2.1 58 = .ok (.getfield 246, 3) := by decide +kernel
theorem d_X12_linesIn_61 : decode mX12_linesIn.2.2.1 61 = .ok (.iload 4, 2) := by decide +kernel
theorem d_X12_linesIn_63 : decode mX12_linesIn.2.2.1 63 = .ok (.iaload, 1) := by decide +kernel
theorem d_X12_linesIn_64 : decode mX12_linesIn.2.2.1 64 = .ok (.lshl, 1) := by decide +kernel
theorem d_X12_linesIn_65 : decode mX12_linesIn.2.2.1 65 = .ok (.lor, 1) := by decide +kernel
theorem d_X12_linesIn_66 : decode mX12_linesIn.2.2.1 66 = .ok (.lstore_n 2, 1) := by decide +kernel
theorem d_X12_linesIn_67 : decode mX12_linesIn.2.2.1 67 = .ok (.iinc 4 1, 3) := by decide +kernel
theorem d_X12_linesIn_70 : decode mX12_linesIn.2.2.1 70 = .ok (.goto (-65), 3) := by decide +kernel
theorem ok_X12_linesIn : e_m mX12_linesIn 1 := ⟨tblG_in (inT9 (List.mem_of_getElem? (i := 173) rfl)) rfl, plainFor_of_name (by decide), rfl, ini_12, by decide +kernel, by decide⟩
theorem d_X12_sharesOf_35 : decode mX12_sharesOf.2.2.1 35 = .ok (.lstore 7, 2) := by decide +kernel
theorem d_X12_sharesOf_37 : decode mX12_sharesOf.2.2.1 37 = .ok (.lload 7, 2) := by decide +kernel
theorem d_X12_sharesOf_39 : decode mX12_sharesOf.2.2.1 39 = .ok (.iload_n 2, 1) := by decide +kernel
theorem d_X12_sharesOf_40 : decode mX12_sharesOf.2.2.1 40 = .ok (.lshr, 1) := by decide +kernel
theorem d_X12_sharesOf_41 : decode mX12_sharesOf.2.2.1 41 = .ok (.lconst 1, 1) := by decide +kernel
theorem d_X12_sharesOf_42 : decode mX12_sharesOf.2.2.1 42 = .ok (.land, 1) := by decide +kernel
theorem d_X12_sharesOf_43 : decode mX12_sharesOf.2.2.1 43 = .ok (.lconst 0, 1) := by decide +kernel
theorem d_X12_sharesOf_44 : decode mX12_sharesOf.2.2.1 44 = .ok (.lcmp, 1) := by decide +kernel
theorem d_X12_sharesOf_45 : decode mX12_sharesOf.2.2.1 45 = .ok (.ifCond .ne 6, 3) := by decide +kernel
theorem d_X12_sharesOf_51 : decode mX12_sharesOf.2.2.1 51 = .ok (.lload 7, 2) := by decide +kernel
theorem d_X12_sharesOf_53 : decode mX12_sharesOf.2.2.1 53 = .ok (.invokestatic 653, 3) := by decide +kernel
def mX12_bitsOf : MD := (12, yX12_bitsOf, cX12_bitsOf, 5, some .int)
theorem s_12_653 : e_siteS 12 653 mX12_bitsOf := ⟨tblG_in (inT9 (List.mem_of_getElem? (i := 186) rfl)) rfl, tblG_in (inT9 (List.mem_of_getElem? (i := 187) rfl)) rfl⟩
theorem d_X12_bitsOf_0 : decode mX12_bitsOf.2.2.1 0 = .ok (.iconst 0, 1) := by decide +kernel
theorem d_X12_bitsOf_1 : decode mX12_bitsOf.2.2.1 1 = .ok (.istore_n 2, 1) := by decide +kernel
theorem d_X12_bitsOf_2 : decode mX12_bitsOf.2.2.1 2 = .ok (.lload_n 0, 1) := by decide +kernel
theorem d_X12_bitsOf_3 : decode mX12_bitsOf.2.2.1 3 = .ok (.lstore_n 3, 1) := by decide +kernel
theorem d_X12_bitsOf_4 : decode mX12_bitsOf.2.2.1 4 = .ok (.lload_n 3, 1) := by decide +kernel
theorem d_X12_bitsOf_5 : decode mX12_bitsOf.2.2.1 5 = .ok (.lconst 0, 1) := by decide +kernel
theorem d_X12_bitsOf_6 : decode mX12_bitsOf.2.2.1 6 = .ok (.lcmp, 1) := by decide +kernel
theorem d_X12_bitsOf_7 : decode mX12_bitsOf.2.2.1 7 = .ok (.ifCond .eq 17, 3) := by decide +kernel
theorem d_X12_bitsOf_24 : decode mX12_bitsOf.2.2.1 24 = .ok (.iload_n 2, 1) := by decide +kernel
theorem d_X12_bitsOf_25 : decode mX12_bitsOf.2.2.1 25 = .ok (.ireturn, 1) := by decide +kernel
theorem d_X12_bitsOf_10 : decode mX12_bitsOf.2.2.1 10 = .ok (.iload_n 2, 1) := by decide +kernel
theorem d_X12_bitsOf_11 : decode mX12_bitsOf.2.2.1 11 = .ok (.lload_n 3, 1) := by decide +kernel
theorem d_X12_bitsOf_12 : decode mX12_bitsOf.2.2.1 12 = .ok (.lconst 1, 1) := by decide +kernel
theorem d_X12_bitsOf_13 : decode mX12_bitsOf.2.2.1 13 = .ok (.land, 1) := by decide +kernel
theorem d_X12_bitsOf_14 : decode mX12_bitsOf.2.2.1 14 = .ok (.l2i, 1) := by decide +kernel
theorem d_X12_bitsOf_15 : decode mX12_bitsOf.2.2.1 15 = .ok (.iadd, 1) := by decide +kernel
theorem d_X12_bitsOf_16 : decode mX12_bitsOf.2.2.1 16 = .ok (.istore_n 2, 1) := by decide +kernel
theorem d_X12_bitsOf_17 : decode mX12_bitsOf.2.2.1 17 = .ok (.lload_n 3, 1) := by decide +kernel
theorem d_X12_bitsOf_18 : decode mX12_bitsOf.2.2.1 18 = .ok (.iconst 1, 1) := by decide +kernel
theorem d_X12_bitsOf_19 : decode mX12_bitsOf.2.2.1 19 = .ok (.lushr, 1) := by decide +kernel
theorem d_X12_bitsOf_20 : decode mX12_bitsOf.2.2.1 20 = .ok (.lstore_n 3, 1) := by decide +kernel
theorem d_X12_bitsOf_21 : decode mX12_bitsOf.2.2.1 21 = .ok (.goto (-17), 3) := by decide +kernel
theorem ok_X12_bitsOf : e_m mX12_bitsOf 1 := ⟨tblG_in (inT9 (List.mem_of_getElem? (i := 188) rfl)) rfl, plainFor_of_name (by decide), rfl, ini_12, by decide +kernel, by decide⟩
theorem d_X12_sharesOf_56 : decode mX12_sharesOf.2.2.1 56 = .ok (.istore 9, 2) := by decide +kernel
theorem d_X12_sharesOf_58 : decode mX12_sharesOf.2.2.1 58 = .ok (.aload_n 0, 1) := by decide +kernel
theorem d_X12_sharesOf_59 : decode mX12_sharesOf.2.2.1 59 = .ok (.iload_n 1, 1) := by decide +kernel
theorem d_X12_sharesOf_60 : decode mX12_sharesOf.2.2.1 60 = .ok (.invokevirtual 647, 3) := by decide +kernel
def mX12_onIn : MD := (12, yX12_onIn, cX12_onIn, 4, some .int)
theorem sel_X12_onIn : Cond.instanceMethod mX12_onIn.2.1 ∈ tblG ∧ Cond.selects mX12_onIn.2.1.cls mX12_onIn.2.1 mX12_onIn.2.1 ∈ tblG := ⟨tblG_in (inT9 (List.mem_of_getElem? (i := 164) rfl)) rfl, tblG_in (inP8 (q := (mX12_onIn.2.1, 121)) (List.mem_of_getElem? (i := 13) rfl)) rfl⟩
theorem s_12_647 : e_siteV 12 647 mX12_onIn 12 := ⟨tblG_in (inT9 (List.mem_of_getElem? (i := 162) rfl)) rfl, sel_X12_onIn.1, sel_X12_onIn.2, rfl⟩
theorem d_X12_onIn_0 : decode mX12_onIn.2.2.1 0 = .ok (.iconst 0, 1) := by decide +kernel
theorem d_X12_onIn_1 : decode mX12_onIn.2.2.1 1 = .ok (.istore_n 2, 1) := by decide +kernel
theorem d_X12_onIn_2 : decode mX12_onIn.2.2.1 2 = .ok (.aload_n 0, 1) := by decide +kernel
theorem d_X12_onIn_3 : decode mX12_onIn.2.2.1 3 = .ok (.getfield 306, 3) := by decide +kernel
theorem d_X12_onIn_6 : decode mX12_onIn.2.2.1 6 = .ok (.istore_n 3, 1) := by decide +kernel
theorem d_X12_onIn_7 : decode mX12_onIn.2.2.1 7 = .ok (.iload_n 3, 1) := by decide +kernel
theorem d_X12_onIn_8 : decode mX12_onIn.2.2.1 8 = .ok (.aload_n 0, 1) := by decide +kernel
theorem d_X12_onIn_9 : decode mX12_onIn.2.2.1 9 = .ok (.getfield 309, 3) := by decide +kernel
theorem d_X12_onIn_12 : decode mX12_onIn.2.2.1 12 = .ok (.if_icmp .ge 27, 3) := by decide +kernel
theorem d_X12_onIn_39 : decode mX12_onIn.2.2.1 39 = .ok (.iload_n 2, 1) := by decide +kernel
theorem d_X12_onIn_40 : decode mX12_onIn.2.2.1 40 = .ok (.ireturn, 1) := by decide +kernel
theorem d_X12_onIn_15 : decode mX12_onIn.2.2.1 15 = .ok (.iload_n 2, 1) := by decide +kernel
theorem d_X12_onIn_16 : decode mX12_onIn.2.2.1 16 = .ok (.aload_n 0, 1) := by decide +kernel
theorem d_X12_onIn_17 : decode mX12_onIn.2.2.1 17 = .ok (.iload_n 1, 1) := by decide +kernel
theorem d_X12_onIn_18 : decode mX12_onIn.2.2.1 18 = .ok (.iload_n 3, 1) := by decide +kernel
theorem d_X12_onIn_19 : decode mX12_onIn.2.2.1 19 = .ok (.invokevirtual 641, 3) := by decide +kernel
theorem d_X12_onIn_22 : decode mX12_onIn.2.2.1 22 = .ok (.iconst 2, 1) := by decide +kernel
theorem d_X12_onIn_23 : decode mX12_onIn.2.2.1 23 = .ok (.if_icmp .ne 7, 3) := by decide +kernel
theorem d_X12_onIn_30 : decode mX12_onIn.2.2.1 30 = .ok (.iconst 0, 1) := by decide +kernel
theorem d_X12_onIn_26 : decode mX12_onIn.2.2.1 26 = .ok (.iconst 1, 1) := by decide +kernel
theorem d_X12_onIn_27 : decode mX12_onIn.2.2.1 27 = .ok (.goto 4, 3) := by decide +kernel
theorem d_X12_onIn_31 : decode mX12_onIn.2.2.1 31 = .ok (.iadd, 1) := by decide +kernel
theorem d_X12_onIn_32 : decode mX12_onIn.2.2.1 32 = .ok (.istore_n 2, 1) := by decide +kernel
theorem d_X12_onIn_33 : decode mX12_onIn.2.2.1 33 = .ok (.iinc 3 1, 3) := by decide +kernel
theorem d_X12_onIn_36 : decode mX12_onIn.2.2.1 36 = .ok (.goto (-29), 3) := by decide +kernel
theorem ok_X12_onIn : e_m mX12_onIn 1 := ⟨tblG_in (inT9 (List.mem_of_getElem? (i := 165) rfl)) rfl, plainFor_of_name (by decide), rfl, ini_12, by decide +kernel, by decide⟩
theorem d_X12_sharesOf_63 : decode mX12_sharesOf.2.2.1 63 = .ok (.i2l, 1) := by decide +kernel
theorem d_X12_sharesOf_64 : decode mX12_sharesOf.2.2.1 64 = .ok (.aload_n 0, 1) := by decide +kernel
theorem d_X12_sharesOf_65 : decode mX12_sharesOf.2.2.1 65 = .ok (.iload_n 1, 1) := by decide +kernel
theorem d_X12_sharesOf_66 : decode mX12_sharesOf.2.2.1 66 = .ok (.iconst 3, 1) := by decide +kernel
theorem d_X12_sharesOf_67 : decode mX12_sharesOf.2.2.1 67 = .ok (.invokevirtual 565, 3) := by decide +kernel
def mX12_rate : MD := (12, yX12_rate, cX12_rate, 3, some .int)
theorem sel_X12_rate : Cond.instanceMethod mX12_rate.2.1 ∈ tblG ∧ Cond.selects mX12_rate.2.1.cls mX12_rate.2.1 mX12_rate.2.1 ∈ tblG := ⟨tblG_in (inT9 (List.mem_of_getElem? (i := 72) rfl)) rfl, tblG_in (inP7 (q := (mX12_rate.2.1, 121)) (List.mem_of_getElem? (i := 15) rfl)) rfl⟩
theorem s_12_565 : e_siteV 12 565 mX12_rate 12 := ⟨tblG_in (inT9 (List.mem_of_getElem? (i := 70) rfl)) rfl, sel_X12_rate.1, sel_X12_rate.2, rfl⟩
theorem d_X12_rate_0 : decode mX12_rate.2.2.1 0 = .ok (.aload_n 0, 1) := by decide +kernel
theorem d_X12_rate_1 : decode mX12_rate.2.2.1 1 = .ok (.getfield 79, 3) := by decide +kernel
theorem d_X12_rate_4 : decode mX12_rate.2.2.1 4 = .ok (.bipush 6, 2) := by decide +kernel
theorem d_X12_rate_6 : decode mX12_rate.2.2.1 6 = .ok (.bipush 6, 2) := by decide +kernel
theorem d_X12_rate_8 : decode mX12_rate.2.2.1 8 = .ok (.aload_n 0, 1) := by decide +kernel
theorem d_X12_rate_9 : decode mX12_rate.2.2.1 9 = .ok (.getfield 48, 3) := by decide +kernel
theorem d_X12_rate_12 : decode mX12_rate.2.2.1 12 = .ok (.imul, 1) := by decide +kernel
theorem d_X12_rate_13 : decode mX12_rate.2.2.1 13 = .ok (.iload_n 1, 1) := by decide +kernel
theorem d_X12_rate_14 : decode mX12_rate.2.2.1 14 = .ok (.iadd, 1) := by decide +kernel
theorem d_X12_rate_15 : decode mX12_rate.2.2.1 15 = .ok (.imul, 1) := by decide +kernel
theorem d_X12_rate_16 : decode mX12_rate.2.2.1 16 = .ok (.iload_n 2, 1) := by decide +kernel
theorem d_X12_rate_17 : decode mX12_rate.2.2.1 17 = .ok (.iadd, 1) := by decide +kernel
theorem d_X12_rate_18 : decode mX12_rate.2.2.1 18 = .ok (.iaload, 1) := by decide +kernel
theorem d_X12_rate_19 : decode mX12_rate.2.2.1 19 = .ok (.ireturn, 1) := by decide +kernel
theorem ok_X12_rate : e_m mX12_rate 2 := ⟨tblG_in (inT9 (List.mem_of_getElem? (i := 73) rfl)) rfl, plainFor_of_name (by decide), rfl, ini_12, by decide +kernel, by decide⟩
theorem d_X12_sharesOf_70 : decode mX12_sharesOf.2.2.1 70 = .ok (.i2l, 1) := by decide +kernel
theorem d_X12_sharesOf_71 : decode mX12_sharesOf.2.2.1 71 = .ok (.lmul, 1) := by decide +kernel
theorem d_X12_sharesOf_72 : decode mX12_sharesOf.2.2.1 72 = .ok (.lstore 10, 2) := by decide +kernel
theorem d_X12_sharesOf_74 : decode mX12_sharesOf.2.2.1 74 = .ok (.lload_n 3, 1) := by decide +kernel
theorem d_X12_sharesOf_75 : decode mX12_sharesOf.2.2.1 75 = .ok (.lload 10, 2) := by decide +kernel
theorem d_X12_sharesOf_77 : decode mX12_sharesOf.2.2.1 77 = .ok (.iload 9, 2) := by decide +kernel
theorem d_X12_sharesOf_79 : decode mX12_sharesOf.2.2.1 79 = .ok (.i2l, 1) := by decide +kernel
theorem d_X12_sharesOf_80 : decode mX12_sharesOf.2.2.1 80 = .ok (.ldiv, 1) := by decide +kernel
theorem d_X12_sharesOf_81 : decode mX12_sharesOf.2.2.1 81 = .ok (.lload 7, 2) := by decide +kernel
theorem d_X12_sharesOf_83 : decode mX12_sharesOf.2.2.1 83 = .ok (.lconst 1, 1) := by decide +kernel
theorem d_X12_sharesOf_84 : decode mX12_sharesOf.2.2.1 84 = .ok (.iload_n 2, 1) := by decide +kernel
theorem d_X12_sharesOf_85 : decode mX12_sharesOf.2.2.1 85 = .ok (.lshl, 1) := by decide +kernel
end
/-! 35.03 -/
section
theorem d_X12_sharesOf_86 : decode mX12_sharesOf.2.2.1 86 = .ok (.lconst 1, 1) := by decide +kernel
theorem d_X12_sharesOf_87 : decode mX12_sharesOf.2.2.1 87 = .ok (.lsub, 1) := by decide +kernel
theorem d_X12_sharesOf_88 : decode mX12_sharesOf.2.2.1 88 = .ok (.land, 1) := by decide +kernel
theorem d_X12_sharesOf_89 : decode mX12_sharesOf.2.2.1 89 = .ok (.invokestatic 653, 3) := by decide +kernel
theorem d_X12_sharesOf_92 : decode mX12_sharesOf.2.2.1 92 = .ok (.i2l, 1) := by decide +kernel
theorem d_X12_sharesOf_93 : decode mX12_sharesOf.2.2.1 93 = .ok (.lload 10, 2) := by decide +kernel
theorem d_X12_sharesOf_95 : decode mX12_sharesOf.2.2.1 95 = .ok (.iload 9, 2) := by decide +kernel
theorem d_X12_sharesOf_97 : decode mX12_sharesOf.2.2.1 97 = .ok (.i2l, 1) := by decide +kernel
theorem d_X12_sharesOf_98 : decode mX12_sharesOf.2.2.1 98 = .ok (.lrem, 1) := by decide +kernel
theorem d_X12_sharesOf_99 : decode mX12_sharesOf.2.2.1 99 = .ok (.lcmp, 1) := by decide +kernel
theorem d_X12_sharesOf_100 : decode mX12_sharesOf.2.2.1 100 = .ok (.ifCond .ge 7, 3) := by decide +kernel
theorem d_X12_sharesOf_107 : decode mX12_sharesOf.2.2.1 107 = .ok (.lconst 0, 1) := by decide +kernel
theorem d_X12_sharesOf_103 : decode mX12_sharesOf.2.2.1 103 = .ok (.lconst 1, 1) := by decide +kernel
theorem d_X12_sharesOf_104 : decode mX12_sharesOf.2.2.1 104 = .ok (.goto 4, 3) := by decide +kernel
theorem d_X12_sharesOf_48 : decode mX12_sharesOf.2.2.1 48 = .ok (.goto 63, 3) := by decide +kernel
theorem d_X12_sharesOf_27 : decode mX12_sharesOf.2.2.1 27 = .ok (.goto 84, 3) := by decide +kernel
theorem d_X12_sharesOf_108 : decode mX12_sharesOf.2.2.1 108 = .ok (.ladd, 1) := by decide +kernel
theorem d_X12_sharesOf_109 : decode mX12_sharesOf.2.2.1 109 = .ok (.ladd, 1) := by decide +kernel
theorem d_X12_sharesOf_110 : decode mX12_sharesOf.2.2.1 110 = .ok (.lstore_n 3, 1) := by decide +kernel
theorem d_X12_sharesOf_111 : decode mX12_sharesOf.2.2.1 111 = .ok (.iinc 6 1, 3) := by decide +kernel
theorem d_X12_sharesOf_114 : decode mX12_sharesOf.2.2.1 114 = .ok (.goto (-106), 3) := by decide +kernel
theorem d_X12_sharesOf_117 : decode mX12_sharesOf.2.2.1 117 = .ok (.lload_n 3, 1) := by decide +kernel
theorem d_X12_sharesOf_118 : decode mX12_sharesOf.2.2.1 118 = .ok (.lreturn, 1) := by decide +kernel
theorem ok_X12_sharesOf : e_m mX12_sharesOf 2 := ⟨tblG_in (inT9 (List.mem_of_getElem? (i := 185) rfl)) rfl, plainFor_of_name (by decide), rfl, ini_12, by decide +kernel, by decide⟩
theorem d_X12_pays_220 : decode mX12_pays.2.2.1 220 = .ok (.ladd, 1) := by decide +kernel
theorem d_X12_pays_221 : decode mX12_pays.2.2.1 221 = .ok (.lstore_n 3, 1) := by decide +kernel
theorem d_X12_pays_222 : decode mX12_pays.2.2.1 222 = .ok (.iinc 5 1, 3) := by decide +kernel
theorem d_X12_pays_225 : decode mX12_pays.2.2.1 225 = .ok (.goto (-37), 3) := by decide +kernel
theorem d_X12_pays_74 : decode mX12_pays.2.2.1 74 = .ok (.iconst 0, 1) := by decide +kernel
theorem d_X12_pays_75 : decode mX12_pays.2.2.1 75 = .ok (.istore 6, 2) := by decide +kernel
theorem d_X12_pays_77 : decode mX12_pays.2.2.1 77 = .ok (.iload 6, 2) := by decide +kernel
theorem d_X12_pays_79 : decode mX12_pays.2.2.1 79 = .ok (.aload_n 0, 1) := by decide +kernel
theorem d_X12_pays_80 : decode mX12_pays.2.2.1 80 = .ok (.getfield 63, 3) := by decide +kernel
theorem d_X12_pays_83 : decode mX12_pays.2.2.1 83 = .ok (.aload_n 0, 1) := by decide +kernel
theorem d_X12_pays_84 : decode mX12_pays.2.2.1 84 = .ok (.getfield 48, 3) := by decide +kernel
theorem d_X12_pays_87 : decode mX12_pays.2.2.1 87 = .ok (.iaload, 1) := by decide +kernel
theorem d_X12_pays_88 : decode mX12_pays.2.2.1 88 = .ok (.if_icmp .ge 91, 3) := by decide +kernel
theorem d_X12_pays_179 : decode mX12_pays.2.2.1 179 = .ok (.iinc 5 1, 3) := by decide +kernel
theorem d_X12_pays_182 : decode mX12_pays.2.2.1 182 = .ok (.goto (-146), 3) := by decide +kernel
theorem d_X12_pays_91 : decode mX12_pays.2.2.1 91 = .ok (.aload_n 0, 1) := by decide +kernel
theorem d_X12_pays_92 : decode mX12_pays.2.2.1 92 = .ok (.iload 6, 2) := by decide +kernel
theorem d_X12_pays_94 : decode mX12_pays.2.2.1 94 = .ok (.iload 5, 2) := by decide +kernel
theorem d_X12_pays_96 : decode mX12_pays.2.2.1 96 = .ok (.invokevirtual 641, 3) := by decide +kernel
theorem d_X12_pays_99 : decode mX12_pays.2.2.1 99 = .ok (.istore 7, 2) := by decide +kernel
theorem d_X12_pays_101 : decode mX12_pays.2.2.1 101 = .ok (.iload_n 1, 1) := by decide +kernel
theorem d_X12_pays_102 : decode mX12_pays.2.2.1 102 = .ok (.iconst (-1), 1) := by decide +kernel
theorem d_X12_pays_103 : decode mX12_pays.2.2.1 103 = .ok (.if_icmp .ne 25, 3) := by decide +kernel
theorem d_X12_pays_128 : decode mX12_pays.2.2.1 128 = .ok (.iload 7, 2) := by decide +kernel
theorem d_X12_pays_130 : decode mX12_pays.2.2.1 130 = .ok (.ifCond .eq 43, 3) := by decide +kernel
theorem d_X12_pays_133 : decode mX12_pays.2.2.1 133 = .ok (.iload 7, 2) := by decide +kernel
theorem d_X12_pays_135 : decode mX12_pays.2.2.1 135 = .ok (.iconst 2, 1) := by decide +kernel
theorem d_X12_pays_136 : decode mX12_pays.2.2.1 136 = .ok (.if_icmp .ne 7, 3) := by decide +kernel
theorem d_X12_pays_139 : decode mX12_pays.2.2.1 139 = .ok (.iload_n 2, 1) := by decide +kernel
theorem d_X12_pays_140 : decode mX12_pays.2.2.1 140 = .ok (.ifCond .ne 33, 3) := by decide +kernel
theorem d_X12_pays_106 : decode mX12_pays.2.2.1 106 = .ok (.lload_n 3, 1) := by decide +kernel
theorem d_X12_pays_107 : decode mX12_pays.2.2.1 107 = .ok (.iload 7, 2) := by decide +kernel
theorem d_X12_pays_109 : decode mX12_pays.2.2.1 109 = .ok (.ifCond .ne 13, 3) := by decide +kernel
theorem d_X12_pays_122 : decode mX12_pays.2.2.1 122 = .ok (.lconst 0, 1) := by decide +kernel
theorem d_X12_pays_112 : decode mX12_pays.2.2.1 112 = .ok (.aload_n 0, 1) := by decide +kernel
theorem d_X12_pays_113 : decode mX12_pays.2.2.1 113 = .ok (.iload 6, 2) := by decide +kernel
theorem d_X12_pays_115 : decode mX12_pays.2.2.1 115 = .ok (.invokevirtual 568, 3) := by decide +kernel
def mX12_sleeps : MD := (12, yX12_sleeps, cX12_sleeps, 2, some .int)
theorem sel_X12_sleeps : Cond.instanceMethod mX12_sleeps.2.1 ∈ tblG ∧ Cond.selects mX12_sleeps.2.1.cls mX12_sleeps.2.1 mX12_sleeps.2.1 ∈ tblG := ⟨tblG_in (inT9 (List.mem_of_getElem? (i := 68) rfl)) rfl, tblG_in (inP7 (q := (mX12_sleeps.2.1, 121)) (List.mem_of_getElem? (i := 14) rfl)) rfl⟩
theorem s_12_568 : e_siteV 12 568 mX12_sleeps 12 := ⟨tblG_in (inT9 (List.mem_of_getElem? (i := 66) rfl)) rfl, sel_X12_sleeps.1, sel_X12_sleeps.2, rfl⟩
theorem d_X12_sleeps_0 : decode mX12_sleeps.2.2.1 0 = .ok (.aload_n 0, 1) := by decide +kernel
theorem d_X12_sleeps_1 : decode mX12_sleeps.2.2.1 1 = .ok (.iload_n 1, 1) := by decide +kernel
theorem d_X12_sleeps_2 : decode mX12_sleeps.2.2.1 2 = .ok (.iconst 0, 1) := by decide +kernel
theorem d_X12_sleeps_3 : decode mX12_sleeps.2.2.1 3 = .ok (.invokevirtual 565, 3) := by decide +kernel
theorem d_X12_sleeps_6 : decode mX12_sleeps.2.2.1 6 = .ok (.ireturn, 1) := by decide +kernel
theorem ok_X12_sleeps : e_m mX12_sleeps 1 := ⟨tblG_in (inT9 (List.mem_of_getElem? (i := 69) rfl)) rfl, plainFor_of_name (by decide), rfl, ini_12, by decide +kernel, by decide⟩
theorem d_X12_pays_118 : decode mX12_pays.2.2.1 118 = .ok (.i2l, 1) := by decide +kernel
theorem d_X12_pays_119 : decode mX12_pays.2.2.1 119 = .ok (.goto 4, 3) := by decide +kernel
theorem d_X12_pays_143 : decode mX12_pays.2.2.1 143 = .ok (.aload_n 0, 1) := by decide +kernel
theorem d_X12_pays_144 : decode mX12_pays.2.2.1 144 = .ok (.getfield 234, 3) := by decide +kernel
theorem d_X12_pays_147 : decode mX12_pays.2.2.1 147 = .ok (.sipush 2100, 3) := by decide +kernel
theorem d_X12_pays_150 : decode mX12_pays.2.2.1 150 = .ok (.iload 6, 2) := by decide +kernel
theorem d_X12_pays_152 : decode mX12_pays.2.2.1 152 = .ok (.imul, 1) := by decide +kernel
theorem d_X12_pays_153 : decode mX12_pays.2.2.1 153 = .ok (.iload 5, 2) := by decide +kernel
theorem d_X12_pays_155 : decode mX12_pays.2.2.1 155 = .ok (.iadd, 1) := by decide +kernel
theorem d_X12_pays_156 : decode mX12_pays.2.2.1 156 = .ok (.iaload, 1) := by decide +kernel
theorem d_X12_pays_157 : decode mX12_pays.2.2.1 157 = .ok (.iload_n 1, 1) := by decide +kernel
theorem d_X12_pays_158 : decode mX12_pays.2.2.1 158 = .ok (.if_icmp .ne 15, 3) := by decide +kernel
theorem d_X12_pays_161 : decode mX12_pays.2.2.1 161 = .ok (.lload_n 3, 1) := by decide +kernel
theorem d_X12_pays_162 : decode mX12_pays.2.2.1 162 = .ok (.aload_n 0, 1) := by decide +kernel
theorem d_X12_pays_163 : decode mX12_pays.2.2.1 163 = .ok (.iload 6, 2) := by decide +kernel
theorem d_X12_pays_165 : decode mX12_pays.2.2.1 165 = .ok (.iload 7, 2) := by decide +kernel
theorem d_X12_pays_167 : decode mX12_pays.2.2.1 167 = .ok (.invokevirtual 574, 3) := by decide +kernel
def mX12_sips : MD := (12, yX12_sips, cX12_sips, 3, some .int)
theorem sel_X12_sips : Cond.instanceMethod mX12_sips.2.1 ∈ tblG ∧ Cond.selects mX12_sips.2.1.cls mX12_sips.2.1 mX12_sips.2.1 ∈ tblG := ⟨tblG_in (inT9 (List.mem_of_getElem? (i := 64) rfl)) rfl, tblG_in (inP7 (q := (mX12_sips.2.1, 121)) (List.mem_of_getElem? (i := 13) rfl)) rfl⟩
theorem s_12_574 : e_siteV 12 574 mX12_sips 12 := ⟨tblG_in (inT9 (List.mem_of_getElem? (i := 62) rfl)) rfl, sel_X12_sips.1, sel_X12_sips.2, rfl⟩
theorem d_X12_sips_0 : decode mX12_sips.2.2.1 0 = .ok (.iload_n 2, 1) := by decide +kernel
theorem d_X12_sips_1 : decode mX12_sips.2.2.1 1 = .ok (.ifCond .ne 11, 3) := by decide +kernel
theorem d_X12_sips_12 : decode mX12_sips.2.2.1 12 = .ok (.iload_n 2, 1) := by decide +kernel
theorem d_X12_sips_13 : decode mX12_sips.2.2.1 13 = .ok (.iconst 1, 1) := by decide +kernel
theorem d_X12_sips_14 : decode mX12_sips.2.2.1 14 = .ok (.if_icmp .ne 12, 3) := by decide +kernel
theorem d_X12_sips_26 : decode mX12_sips.2.2.1 26 = .ok (.iload_n 2, 1) := by decide +kernel
theorem d_X12_sips_27 : decode mX12_sips.2.2.1 27 = .ok (.iconst 2, 1) := by decide +kernel
theorem d_X12_sips_28 : decode mX12_sips.2.2.1 28 = .ok (.if_icmp .ne 12, 3) := by decide +kernel
theorem d_X12_sips_40 : decode mX12_sips.2.2.1 40 = .ok (.aload_n 0, 1) := by decide +kernel
theorem d_X12_sips_41 : decode mX12_sips.2.2.1 41 = .ok (.iload_n 1, 1) := by decide +kernel
theorem d_X12_sips_42 : decode mX12_sips.2.2.1 42 = .ok (.iconst 4, 1) := by decide +kernel
theorem d_X12_sips_43 : decode mX12_sips.2.2.1 43 = .ok (.invokevirtual 565, 3) := by decide +kernel
theorem d_X12_sips_46 : decode mX12_sips.2.2.1 46 = .ok (.ireturn, 1) := by decide +kernel
theorem d_X12_sips_31 : decode mX12_sips.2.2.1 31 = .ok (.aload_n 0, 1) := by decide +kernel
theorem d_X12_sips_32 : decode mX12_sips.2.2.1 32 = .ok (.iload_n 1, 1) := by decide +kernel
theorem d_X12_sips_33 : decode mX12_sips.2.2.1 33 = .ok (.iconst 3, 1) := by decide +kernel
theorem d_X12_sips_34 : decode mX12_sips.2.2.1 34 = .ok (.invokevirtual 565, 3) := by decide +kernel
theorem d_X12_sips_37 : decode mX12_sips.2.2.1 37 = .ok (.goto 9, 3) := by decide +kernel
theorem d_X12_sips_17 : decode mX12_sips.2.2.1 17 = .ok (.aload_n 0, 1) := by decide +kernel
theorem d_X12_sips_18 : decode mX12_sips.2.2.1 18 = .ok (.iload_n 1, 1) := by decide +kernel
theorem d_X12_sips_19 : decode mX12_sips.2.2.1 19 = .ok (.iconst 2, 1) := by decide +kernel
theorem d_X12_sips_20 : decode mX12_sips.2.2.1 20 = .ok (.invokevirtual 565, 3) := by decide +kernel
theorem d_X12_sips_23 : decode mX12_sips.2.2.1 23 = .ok (.goto 23, 3) := by decide +kernel
theorem d_X12_sips_4 : decode mX12_sips.2.2.1 4 = .ok (.aload_n 0, 1) := by decide +kernel
theorem d_X12_sips_5 : decode mX12_sips.2.2.1 5 = .ok (.iload_n 1, 1) := by decide +kernel
theorem d_X12_sips_6 : decode mX12_sips.2.2.1 6 = .ok (.invokevirtual 568, 3) := by decide +kernel
theorem d_X12_sips_9 : decode mX12_sips.2.2.1 9 = .ok (.goto 37, 3) := by decide +kernel
theorem ok_X12_sips : e_m mX12_sips 2 := ⟨tblG_in (inT9 (List.mem_of_getElem? (i := 65) rfl)) rfl, plainFor_of_name (by decide), rfl, ini_12, by decide +kernel, by decide⟩
theorem d_X12_pays_170 : decode mX12_pays.2.2.1 170 = .ok (.i2l, 1) := by decide +kernel
theorem d_X12_pays_171 : decode mX12_pays.2.2.1 171 = .ok (.ladd, 1) := by decide +kernel
theorem d_X12_pays_172 : decode mX12_pays.2.2.1 172 = .ok (.lstore_n 3, 1) := by decide +kernel
theorem d_X12_pays_123 : decode mX12_pays.2.2.1 123 = .ok (.ladd, 1) := by decide +kernel
theorem d_X12_pays_124 : decode mX12_pays.2.2.1 124 = .ok (.lstore_n 3, 1) := by decide +kernel
theorem d_X12_pays_125 : decode mX12_pays.2.2.1 125 = .ok (.goto 48, 3) := by decide +kernel
theorem d_X12_pays_173 : decode mX12_pays.2.2.1 173 = .ok (.iinc 6 1, 3) := by decide +kernel
theorem d_X12_pays_176 : decode mX12_pays.2.2.1 176 = .ok (.goto (-99), 3) := by decide +kernel
def mX12_stretches : MD := (12, yX12_stretches, cX12_stretches, 3, some .int)
theorem d_X12_stretches_0 : decode mX12_stretches.2.2.1 0 = .ok (.aload_n 0, 1) := by decide +kernel
theorem d_X12_stretches_1 : decode mX12_stretches.2.2.1 1 = .ok (.getfield 270, 3) := by decide +kernel
theorem d_X12_stretches_4 : decode mX12_stretches.2.2.1 4 = .ok (.ifCond .eq 11, 3) := by decide +kernel
theorem d_X12_stretches_15 : decode mX12_stretches.2.2.1 15 = .ok (.iconst (-1), 1) := by decide +kernel
theorem d_X12_stretches_16 : decode mX12_stretches.2.2.1 16 = .ok (.ireturn, 1) := by decide +kernel
theorem d_X12_stretches_7 : decode mX12_stretches.2.2.1 7 = .ok (.aload_n 0, 1) := by decide +kernel
theorem d_X12_stretches_8 : decode mX12_stretches.2.2.1 8 = .ok (.iload_n 1, 1) := by decide +kernel
theorem d_X12_stretches_9 : decode mX12_stretches.2.2.1 9 = .ok (.invokevirtual 555, 3) := by decide +kernel
theorem d_X12_stretches_12 : decode mX12_stretches.2.2.1 12 = .ok (.ifCond .ne 5, 3) := by decide +kernel
theorem d_X12_stretches_17 : decode mX12_stretches.2.2.1 17 = .ok (.aload_n 0, 1) := by decide +kernel
theorem d_X12_stretches_18 : decode mX12_stretches.2.2.1 18 = .ok (.iload_n 1, 1) := by decide +kernel
theorem d_X12_stretches_19 : decode mX12_stretches.2.2.1 19 = .ok (.iconst (-1), 1) := by decide +kernel
theorem d_X12_stretches_20 : decode mX12_stretches.2.2.1 20 = .ok (.invokevirtual 644, 3) := by decide +kernel
theorem d_X12_stretches_23 : decode mX12_stretches.2.2.1 23 = .ok (.istore_n 2, 1) := by decide +kernel
theorem d_X12_stretches_24 : decode mX12_stretches.2.2.1 24 = .ok (.iload_n 2, 1) := by decide +kernel
theorem d_X12_stretches_25 : decode mX12_stretches.2.2.1 25 = .ok (.ifCond .eq 7, 3) := by decide +kernel
theorem d_X12_stretches_32 : decode mX12_stretches.2.2.1 32 = .ok (.aload_n 0, 1) := by decide +kernel
theorem d_X12_stretches_33 : decode mX12_stretches.2.2.1 33 = .ok (.getfield 312, 3) := by decide +kernel
theorem d_X12_stretches_36 : decode mX12_stretches.2.2.1 36 = .ok (.ireturn, 1) := by decide +kernel
theorem d_X12_stretches_28 : decode mX12_stretches.2.2.1 28 = .ok (.iconst (-1), 1) := by decide +kernel
theorem d_X12_stretches_29 : decode mX12_stretches.2.2.1 29 = .ok (.goto 7, 3) := by decide +kernel
def mX12_stretch : MD := (12, yX12_stretch, cX12_stretch, 4, some .int)
theorem d_X12_stretch_0 : decode mX12_stretch.2.2.1 0 = .ok (.aload_n 0, 1) := by decide +kernel
theorem d_X12_stretch_1 : decode mX12_stretch.2.2.1 1 = .ok (.getfield 270, 3) := by decide +kernel
theorem d_X12_stretch_4 : decode mX12_stretch.2.2.1 4 = .ok (.ifCond .eq 33, 3) := by decide +kernel
theorem d_X12_stretch_37 : decode mX12_stretch.2.2.1 37 = .ok (.iconst (-1), 1) := by decide +kernel
theorem d_X12_stretch_38 : decode mX12_stretch.2.2.1 38 = .ok (.ireturn, 1) := by decide +kernel
theorem d_X12_stretch_7 : decode mX12_stretch.2.2.1 7 = .ok (.aload_n 0, 1) := by decide +kernel
theorem d_X12_stretch_8 : decode mX12_stretch.2.2.1 8 = .ok (.iload_n 1, 1) := by decide +kernel
theorem d_X12_stretch_9 : decode mX12_stretch.2.2.1 9 = .ok (.invokevirtual 555, 3) := by decide +kernel
theorem d_X12_stretch_12 : decode mX12_stretch.2.2.1 12 = .ok (.ifCond .eq 25, 3) := by decide +kernel
theorem d_X12_stretch_15 : decode mX12_stretch.2.2.1 15 = .ok (.iload_n 2, 1) := by decide +kernel
theorem d_X12_stretch_16 : decode mX12_stretch.2.2.1 16 = .ok (.ifCond .lt 21, 3) := by decide +kernel
theorem d_X12_stretch_19 : decode mX12_stretch.2.2.1 19 = .ok (.iload_n 3, 1) := by decide +kernel
theorem d_X12_stretch_20 : decode mX12_stretch.2.2.1 20 = .ok (.iconst 0, 1) := by decide +kernel
theorem d_X12_stretch_21 : decode mX12_stretch.2.2.1 21 = .ok (.iconst 2, 1) := by decide +kernel
theorem d_X12_stretch_22 : decode mX12_stretch.2.2.1 22 = .ok (.invokestatic 467, 3) := by decide +kernel
theorem d_X12_stretch_25 : decode mX12_stretch.2.2.1 25 = .ok (.ifCond .eq 12, 3) := by decide +kernel
theorem d_X12_stretch_28 : decode mX12_stretch.2.2.1 28 = .ok (.aload_n 0, 1) := by decide +kernel
theorem d_X12_stretch_29 : decode mX12_stretch.2.2.1 29 = .ok (.iload_n 1, 1) := by decide +kernel
theorem d_X12_stretch_30 : decode mX12_stretch.2.2.1 30 = .ok (.iload_n 2, 1) := by decide +kernel
theorem d_X12_stretch_31 : decode mX12_stretch.2.2.1 31 = .ok (.invokevirtual 644, 3) := by decide +kernel
theorem d_X12_stretch_34 : decode mX12_stretch.2.2.1 34 = .ok (.ifCond .ne 5, 3) := by decide +kernel
theorem d_X12_stretch_39 : decode mX12_stretch.2.2.1 39 = .ok (.iload_n 3, 1) := by decide +kernel
theorem d_X12_stretch_40 : decode mX12_stretch.2.2.1 40 = .ok (.ifCond .ne 10, 3) := by decide +kernel
theorem d_X12_stretch_50 : decode mX12_stretch.2.2.1 50 = .ok (.iload_n 3, 1) := by decide +kernel
theorem d_X12_stretch_51 : decode mX12_stretch.2.2.1 51 = .ok (.iconst 1, 1) := by decide +kernel
theorem d_X12_stretch_52 : decode mX12_stretch.2.2.1 52 = .ok (.if_icmp .ne 10, 3) := by decide +kernel
theorem d_X12_stretch_62 : decode mX12_stretch.2.2.1 62 = .ok (.aload_n 0, 1) := by decide +kernel
theorem d_X12_stretch_63 : decode mX12_stretch.2.2.1 63 = .ok (.iload_n 1, 1) := by decide +kernel
theorem d_X12_stretch_64 : decode mX12_stretch.2.2.1 64 = .ok (.invokevirtual 647, 3) := by decide +kernel
theorem d_X12_stretch_67 : decode mX12_stretch.2.2.1 67 = .ok (.ireturn, 1) := by decide +kernel
theorem d_X12_stretch_55 : decode mX12_stretch.2.2.1 55 = .ok (.aload_n 0, 1) := by decide +kernel
theorem d_X12_stretch_56 : decode mX12_stretch.2.2.1 56 = .ok (.getfield 309, 3) := by decide +kernel
theorem d_X12_stretch_59 : decode mX12_stretch.2.2.1 59 = .ok (.goto 8, 3) := by decide +kernel
theorem d_X12_stretch_43 : decode mX12_stretch.2.2.1 43 = .ok (.aload_n 0, 1) := by decide +kernel
theorem d_X12_stretch_44 : decode mX12_stretch.2.2.1 44 = .ok (.getfield 306, 3) := by decide +kernel
theorem d_X12_stretch_47 : decode mX12_stretch.2.2.1 47 = .ok (.goto 20, 3) := by decide +kernel
def mX12_lines : MD := (12, yX12_lines, cX12_lines, 3, some .long)
theorem d_X12_lines_0 : decode mX12_lines.2.2.1 0 = .ok (.aload_n 0, 1) := by decide +kernel
theorem d_X12_lines_1 : decode mX12_lines.2.2.1 1 = .ok (.getfield 270, 3) := by decide +kernel
theorem d_X12_lines_4 : decode mX12_lines.2.2.1 4 = .ok (.ifCond .eq 24, 3) := by decide +kernel
theorem d_X12_lines_28 : decode mX12_lines.2.2.1 28 = .ok (.lconst 0, 1) := by decide +kernel
theorem d_X12_lines_29 : decode mX12_lines.2.2.1 29 = .ok (.goto 8, 3) := by decide +kernel
theorem d_X12_lines_37 : decode mX12_lines.2.2.1 37 = .ok (.lreturn, 1) := by decide +kernel
theorem d_X12_lines_7 : decode mX12_lines.2.2.1 7 = .ok (.aload_n 0, 1) := by decide +kernel
theorem d_X12_lines_8 : decode mX12_lines.2.2.1 8 = .ok (.iload_n 1, 1) := by decide +kernel
theorem d_X12_lines_9 : decode mX12_lines.2.2.1 9 = .ok (.invokevirtual 555, 3) := by decide +kernel
theorem d_X12_lines_12 : decode mX12_lines.2.2.1 12 = .ok (.ifCond .eq 16, 3) := by decide +kernel
theorem d_X12_lines_15 : decode mX12_lines.2.2.1 15 = .ok (.iload_n 2, 1) := by decide +kernel
theorem d_X12_lines_16 : decode mX12_lines.2.2.1 16 = .ok (.ifCond .lt 12, 3) := by decide +kernel
theorem d_X12_lines_19 : decode mX12_lines.2.2.1 19 = .ok (.aload_n 0, 1) := by decide +kernel
theorem d_X12_lines_20 : decode mX12_lines.2.2.1 20 = .ok (.iload_n 1, 1) := by decide +kernel
theorem d_X12_lines_21 : decode mX12_lines.2.2.1 21 = .ok (.iload_n 2, 1) := by decide +kernel
theorem d_X12_lines_22 : decode mX12_lines.2.2.1 22 = .ok (.invokevirtual 644, 3) := by decide +kernel
theorem d_X12_lines_25 : decode mX12_lines.2.2.1 25 = .ok (.ifCond .ne 7, 3) := by decide +kernel
theorem d_X12_lines_32 : decode mX12_lines.2.2.1 32 = .ok (.aload_n 0, 1) := by decide +kernel
theorem d_X12_lines_33 : decode mX12_lines.2.2.1 33 = .ok (.iload_n 1, 1) := by decide +kernel
theorem d_X12_lines_34 : decode mX12_lines.2.2.1 34 = .ok (.invokevirtual 650, 3) := by decide +kernel
def mX12_wasted : MD := (12, yX12_wasted, cX12_wasted, 8, some .int)
theorem d_X12_wasted_0 : decode mX12_wasted.2.2.1 0 = .ok (.aload_n 0, 1) := by decide +kernel
theorem d_X12_wasted_1 : decode mX12_wasted.2.2.1 1 = .ok (.getfield 270, 3) := by decide +kernel
theorem d_X12_wasted_4 : decode mX12_wasted.2.2.1 4 = .ok (.ifCond .eq 11, 3) := by decide +kernel
theorem d_X12_wasted_15 : decode mX12_wasted.2.2.1 15 = .ok (.iconst (-1), 1) := by decide +kernel
theorem d_X12_wasted_16 : decode mX12_wasted.2.2.1 16 = .ok (.ireturn, 1) := by decide +kernel
theorem d_X12_wasted_7 : decode mX12_wasted.2.2.1 7 = .ok (.aload_n 0, 1) := by decide +kernel
theorem d_X12_wasted_8 : decode mX12_wasted.2.2.1 8 = .ok (.iload_n 1, 1) := by decide +kernel
theorem d_X12_wasted_9 : decode mX12_wasted.2.2.1 9 = .ok (.invokevirtual 656, 3) := by decide +kernel
theorem d_X12_wasted_12 : decode mX12_wasted.2.2.1 12 = .ok (.ifCond .ne 5, 3) := by decide +kernel
theorem d_X12_wasted_17 : decode mX12_wasted.2.2.1 17 = .ok (.iconst 0, 1) := by decide +kernel
theorem d_X12_wasted_18 : decode mX12_wasted.2.2.1 18 = .ok (.istore_n 2, 1) := by decide +kernel
theorem d_X12_wasted_19 : decode mX12_wasted.2.2.1 19 = .ok (.iconst 0, 1) := by decide +kernel
theorem d_X12_wasted_20 : decode mX12_wasted.2.2.1 20 = .ok (.istore_n 3, 1) := by decide +kernel
theorem d_X12_wasted_21 : decode mX12_wasted.2.2.1 21 = .ok (.iload_n 3, 1) := by decide +kernel
theorem d_X12_wasted_22 : decode mX12_wasted.2.2.1 22 = .ok (.aload_n 0, 1) := by decide +kernel
theorem d_X12_wasted_23 : decode mX12_wasted.2.2.1 23 = .ok (.getfield 63, 3) := by decide +kernel
theorem d_X12_wasted_26 : decode mX12_wasted.2.2.1 26 = .ok (.aload_n 0, 1) := by decide +kernel
theorem d_X12_wasted_27 : decode mX12_wasted.2.2.1 27 = .ok (.getfield 48, 3) := by decide +kernel
theorem d_X12_wasted_30 : decode mX12_wasted.2.2.1 30 = .ok (.iaload, 1) := by decide +kernel
theorem d_X12_wasted_31 : decode mX12_wasted.2.2.1 31 = .ok (.if_icmp .ge 205, 3) := by decide +kernel
theorem d_X12_wasted_236 : decode mX12_wasted.2.2.1 236 = .ok (.iload_n 2, 1) := by decide +kernel
theorem d_X12_wasted_237 : decode mX12_wasted.2.2.1 237 = .ok (.ireturn, 1) := by decide +kernel
theorem d_X12_wasted_34 : decode mX12_wasted.2.2.1 34 = .ok (.iconst 1, 1) := by decide +kernel
end
/-! 35.04 -/
section
theorem d_X12_wasted_35 : decode mX12_wasted.2.2.1 35 = .ok (.istore 4, 2) := by decide +kernel
theorem d_X12_wasted_37 : decode mX12_wasted.2.2.1 37 = .ok (.iconst 0, 1) := by decide +kernel
theorem d_X12_wasted_38 : decode mX12_wasted.2.2.1 38 = .ok (.istore 5, 2) := by decide +kernel
theorem d_X12_wasted_40 : decode mX12_wasted.2.2.1 40 = .ok (.iload 4, 2) := by decide +kernel
theorem d_X12_wasted_42 : decode mX12_wasted.2.2.1 42 = .ok (.ifCond .eq 188, 3) := by decide +kernel
theorem d_X12_wasted_45 : decode mX12_wasted.2.2.1 45 = .ok (.aload_n 0, 1) := by decide +kernel
theorem d_X12_wasted_46 : decode mX12_wasted.2.2.1 46 = .ok (.iload_n 3, 1) := by decide +kernel
theorem d_X12_wasted_47 : decode mX12_wasted.2.2.1 47 = .ok (.iload 5, 2) := by decide +kernel
theorem d_X12_wasted_49 : decode mX12_wasted.2.2.1 49 = .ok (.invokevirtual 644, 3) := by decide +kernel
theorem d_X12_wasted_52 : decode mX12_wasted.2.2.1 52 = .ok (.istore 4, 2) := by decide +kernel
theorem d_X12_wasted_54 : decode mX12_wasted.2.2.1 54 = .ok (.iload 4, 2) := by decide +kernel
theorem d_X12_wasted_56 : decode mX12_wasted.2.2.1 56 = .ok (.ifCond .eq 168, 3) := by decide +kernel
theorem d_X12_wasted_59 : decode mX12_wasted.2.2.1 59 = .ok (.aload_n 0, 1) := by decide +kernel
theorem d_X12_wasted_60 : decode mX12_wasted.2.2.1 60 = .ok (.getfield 309, 3) := by decide +kernel
theorem d_X12_wasted_63 : decode mX12_wasted.2.2.1 63 = .ok (.aload_n 0, 1) := by decide +kernel
theorem d_X12_wasted_64 : decode mX12_wasted.2.2.1 64 = .ok (.getfield 273, 3) := by decide +kernel
theorem d_X12_wasted_67 : decode mX12_wasted.2.2.1 67 = .ok (.if_icmp .ne 15, 3) := by decide +kernel
theorem d_X12_wasted_70 : decode mX12_wasted.2.2.1 70 = .ok (.aload_n 0, 1) := by decide +kernel
theorem d_X12_wasted_71 : decode mX12_wasted.2.2.1 71 = .ok (.getfield 297, 3) := by decide +kernel
theorem d_X12_wasted_74 : decode mX12_wasted.2.2.1 74 = .ok (.iload_n 3, 1) := by decide +kernel
theorem d_X12_wasted_75 : decode mX12_wasted.2.2.1 75 = .ok (.baload, 1) := by decide +kernel
theorem d_X12_wasted_76 : decode mX12_wasted.2.2.1 76 = .ok (.ifCond .ne 6, 3) := by decide +kernel
theorem d_X12_wasted_79 : decode mX12_wasted.2.2.1 79 = .ok (.goto 145, 3) := by decide +kernel
theorem d_X12_wasted_82 : decode mX12_wasted.2.2.1 82 = .ok (.iconst (-1), 1) := by decide +kernel
theorem d_X12_wasted_83 : decode mX12_wasted.2.2.1 83 = .ok (.istore 6, 2) := by decide +kernel
theorem d_X12_wasted_85 : decode mX12_wasted.2.2.1 85 = .ok (.iconst 0, 1) := by decide +kernel
theorem d_X12_wasted_86 : decode mX12_wasted.2.2.1 86 = .ok (.istore 7, 2) := by decide +kernel
theorem d_X12_wasted_88 : decode mX12_wasted.2.2.1 88 = .ok (.iload 7, 2) := by decide +kernel
theorem d_X12_wasted_90 : decode mX12_wasted.2.2.1 90 = .ok (.aload_n 0, 1) := by decide +kernel
theorem d_X12_wasted_91 : decode mX12_wasted.2.2.1 91 = .ok (.getfield 300, 3) := by decide +kernel
theorem d_X12_wasted_94 : decode mX12_wasted.2.2.1 94 = .ok (.if_icmp .ge 59, 3) := by decide +kernel
theorem d_X12_wasted_153 : decode mX12_wasted.2.2.1 153 = .ok (.iload 6, 2) := by decide +kernel
theorem d_X12_wasted_155 : decode mX12_wasted.2.2.1 155 = .ok (.iload_n 1, 1) := by decide +kernel
theorem d_X12_wasted_156 : decode mX12_wasted.2.2.1 156 = .ok (.if_icmp .eq 6, 3) := by decide +kernel
theorem d_X12_wasted_159 : decode mX12_wasted.2.2.1 159 = .ok (.goto 65, 3) := by decide +kernel
theorem d_X12_wasted_97 : decode mX12_wasted.2.2.1 97 = .ok (.aload_n 0, 1) := by decide +kernel
theorem d_X12_wasted_98 : decode mX12_wasted.2.2.1 98 = .ok (.getfield 243, 3) := by decide +kernel
theorem d_X12_wasted_101 : decode mX12_wasted.2.2.1 101 = .ok (.iload 7, 2) := by decide +kernel
theorem d_X12_wasted_103 : decode mX12_wasted.2.2.1 103 = .ok (.iaload, 1) := by decide +kernel
theorem d_X12_wasted_104 : decode mX12_wasted.2.2.1 104 = .ok (.iload_n 3, 1) := by decide +kernel
theorem d_X12_wasted_105 : decode mX12_wasted.2.2.1 105 = .ok (.if_icmp .ne 42, 3) := by decide +kernel
theorem d_X12_wasted_108 : decode mX12_wasted.2.2.1 108 = .ok (.aload_n 0, 1) := by decide +kernel
theorem d_X12_wasted_109 : decode mX12_wasted.2.2.1 109 = .ok (.getfield 249, 3) := by decide +kernel
theorem d_X12_wasted_112 : decode mX12_wasted.2.2.1 112 = .ok (.iload 7, 2) := by decide +kernel
theorem d_X12_wasted_114 : decode mX12_wasted.2.2.1 114 = .ok (.iaload, 1) := by decide +kernel
theorem d_X12_wasted_115 : decode mX12_wasted.2.2.1 115 = .ok (.aload_n 0, 1) := by decide +kernel
theorem d_X12_wasted_116 : decode mX12_wasted.2.2.1 116 = .ok (.getfield 306, 3) := by decide +kernel
theorem d_X12_wasted_119 : decode mX12_wasted.2.2.1 119 = .ok (.iconst 1, 1) := by decide +kernel
theorem d_X12_wasted_120 : decode mX12_wasted.2.2.1 120 = .ok (.isub, 1) := by decide +kernel
theorem d_X12_wasted_121 : decode mX12_wasted.2.2.1 121 = .ok (.if_icmp .lt 26, 3) := by decide +kernel
theorem d_X12_wasted_124 : decode mX12_wasted.2.2.1 124 = .ok (.aload_n 0, 1) := by decide +kernel
theorem d_X12_wasted_125 : decode mX12_wasted.2.2.1 125 = .ok (.getfield 249, 3) := by decide +kernel
theorem d_X12_wasted_128 : decode mX12_wasted.2.2.1 128 = .ok (.iload 7, 2) := by decide +kernel
theorem d_X12_wasted_130 : decode mX12_wasted.2.2.1 130 = .ok (.iaload, 1) := by decide +kernel
theorem d_X12_wasted_131 : decode mX12_wasted.2.2.1 131 = .ok (.aload_n 0, 1) := by decide +kernel
theorem d_X12_wasted_132 : decode mX12_wasted.2.2.1 132 = .ok (.getfield 309, 3) := by decide +kernel
theorem d_X12_wasted_135 : decode mX12_wasted.2.2.1 135 = .ok (.if_icmp .ge 12, 3) := by decide +kernel
theorem d_X12_wasted_138 : decode mX12_wasted.2.2.1 138 = .ok (.aload_n 0, 1) := by decide +kernel
theorem d_X12_wasted_139 : decode mX12_wasted.2.2.1 139 = .ok (.getfield 246, 3) := by decide +kernel
theorem d_X12_wasted_142 : decode mX12_wasted.2.2.1 142 = .ok (.iload 7, 2) := by decide +kernel
theorem d_X12_wasted_144 : decode mX12_wasted.2.2.1 144 = .ok (.iaload, 1) := by decide +kernel
theorem d_X12_wasted_145 : decode mX12_wasted.2.2.1 145 = .ok (.istore 6, 2) := by decide +kernel
theorem d_X12_wasted_147 : decode mX12_wasted.2.2.1 147 = .ok (.iinc 7 1, 3) := by decide +kernel
theorem d_X12_wasted_150 : decode mX12_wasted.2.2.1 150 = .ok (.goto (-62), 3) := by decide +kernel
theorem d_X12_wasted_162 : decode mX12_wasted.2.2.1 162 = .ok (.aload_n 0, 1) := by decide +kernel
theorem d_X12_wasted_163 : decode mX12_wasted.2.2.1 163 = .ok (.getfield 309, 3) := by decide +kernel
theorem d_X12_wasted_166 : decode mX12_wasted.2.2.1 166 = .ok (.iconst 1, 1) := by decide +kernel
theorem d_X12_wasted_167 : decode mX12_wasted.2.2.1 167 = .ok (.isub, 1) := by decide +kernel
theorem d_X12_wasted_168 : decode mX12_wasted.2.2.1 168 = .ok (.istore 7, 2) := by decide +kernel
theorem d_X12_wasted_170 : decode mX12_wasted.2.2.1 170 = .ok (.iload 7, 2) := by decide +kernel
theorem d_X12_wasted_172 : decode mX12_wasted.2.2.1 172 = .ok (.aload_n 0, 1) := by decide +kernel
theorem d_X12_wasted_173 : decode mX12_wasted.2.2.1 173 = .ok (.getfield 306, 3) := by decide +kernel
theorem d_X12_wasted_176 : decode mX12_wasted.2.2.1 176 = .ok (.if_icmp .lt 48, 3) := by decide +kernel
theorem d_X12_wasted_179 : decode mX12_wasted.2.2.1 179 = .ok (.iload 7, 2) := by decide +kernel
theorem d_X12_wasted_181 : decode mX12_wasted.2.2.1 181 = .ok (.aload_n 0, 1) := by decide +kernel
theorem d_X12_wasted_182 : decode mX12_wasted.2.2.1 182 = .ok (.getfield 309, 3) := by decide +kernel
theorem d_X12_wasted_185 : decode mX12_wasted.2.2.1 185 = .ok (.aload_n 0, 1) := by decide +kernel
theorem d_X12_wasted_186 : decode mX12_wasted.2.2.1 186 = .ok (.iload_n 3, 1) := by decide +kernel
theorem d_X12_wasted_187 : decode mX12_wasted.2.2.1 187 = .ok (.invokevirtual 591, 3) := by decide +kernel
def mX12_tails : MD := (12, yX12_tails, cX12_tails, 2, some .int)
theorem sel_X12_tails : Cond.instanceMethod mX12_tails.2.1 ∈ tblG ∧ Cond.selects mX12_tails.2.1.cls mX12_tails.2.1 mX12_tails.2.1 ∈ tblG := ⟨tblG_in (inT9 (List.mem_of_getElem? (i := 118) rfl)) rfl, tblG_in (inP8 (q := (mX12_tails.2.1, 121)) (List.mem_of_getElem? (i := 7) rfl)) rfl⟩
theorem s_12_591 : e_siteV 12 591 mX12_tails 12 := ⟨tblG_in (inT9 (List.mem_of_getElem? (i := 116) rfl)) rfl, sel_X12_tails.1, sel_X12_tails.2, rfl⟩
theorem d_X12_tails_0 : decode mX12_tails.2.2.1 0 = .ok (.aload_n 0, 1) := by decide +kernel
theorem d_X12_tails_1 : decode mX12_tails.2.2.1 1 = .ok (.iload_n 1, 1) := by decide +kernel
theorem d_X12_tails_2 : decode mX12_tails.2.2.1 2 = .ok (.iconst 5, 1) := by decide +kernel
theorem d_X12_tails_3 : decode mX12_tails.2.2.1 3 = .ok (.invokevirtual 565, 3) := by decide +kernel
theorem d_X12_tails_6 : decode mX12_tails.2.2.1 6 = .ok (.ireturn, 1) := by decide +kernel
theorem ok_X12_tails : e_m mX12_tails 1 := ⟨tblG_in (inT9 (List.mem_of_getElem? (i := 119) rfl)) rfl, plainFor_of_name (by decide), rfl, ini_12, by decide +kernel, by decide⟩
theorem d_X12_wasted_190 : decode mX12_wasted.2.2.1 190 = .ok (.isub, 1) := by decide +kernel
theorem d_X12_wasted_191 : decode mX12_wasted.2.2.1 191 = .ok (.if_icmp .lt 33, 3) := by decide +kernel
theorem d_X12_wasted_194 : decode mX12_wasted.2.2.1 194 = .ok (.iload_n 2, 1) := by decide +kernel
theorem d_X12_wasted_195 : decode mX12_wasted.2.2.1 195 = .ok (.aload_n 0, 1) := by decide +kernel
theorem d_X12_wasted_196 : decode mX12_wasted.2.2.1 196 = .ok (.iload_n 3, 1) := by decide +kernel
theorem d_X12_wasted_197 : decode mX12_wasted.2.2.1 197 = .ok (.iload 7, 2) := by decide +kernel
theorem d_X12_wasted_199 : decode mX12_wasted.2.2.1 199 = .ok (.invokevirtual 641, 3) := by decide +kernel
theorem d_X12_wasted_202 : decode mX12_wasted.2.2.1 202 = .ok (.iconst 2, 1) := by decide +kernel
theorem d_X12_wasted_203 : decode mX12_wasted.2.2.1 203 = .ok (.if_icmp .ne 12, 3) := by decide +kernel
theorem d_X12_wasted_215 : decode mX12_wasted.2.2.1 215 = .ok (.iconst 0, 1) := by decide +kernel
theorem d_X12_wasted_206 : decode mX12_wasted.2.2.1 206 = .ok (.aload_n 0, 1) := by decide +kernel
theorem d_X12_wasted_207 : decode mX12_wasted.2.2.1 207 = .ok (.iload_n 3, 1) := by decide +kernel
theorem d_X12_wasted_208 : decode mX12_wasted.2.2.1 208 = .ok (.iconst 3, 1) := by decide +kernel
theorem d_X12_wasted_209 : decode mX12_wasted.2.2.1 209 = .ok (.invokevirtual 565, 3) := by decide +kernel
theorem d_X12_wasted_212 : decode mX12_wasted.2.2.1 212 = .ok (.goto 4, 3) := by decide +kernel
theorem d_X12_wasted_216 : decode mX12_wasted.2.2.1 216 = .ok (.iadd, 1) := by decide +kernel
theorem d_X12_wasted_217 : decode mX12_wasted.2.2.1 217 = .ok (.istore_n 2, 1) := by decide +kernel
theorem d_X12_wasted_218 : decode mX12_wasted.2.2.1 218 = .ok (.iinc 7 (-1), 3) := by decide +kernel
theorem d_X12_wasted_221 : decode mX12_wasted.2.2.1 221 = .ok (.goto (-51), 3) := by decide +kernel
theorem d_X12_wasted_224 : decode mX12_wasted.2.2.1 224 = .ok (.iinc 5 1, 3) := by decide +kernel
theorem d_X12_wasted_227 : decode mX12_wasted.2.2.1 227 = .ok (.goto (-187), 3) := by decide +kernel
theorem d_X12_wasted_230 : decode mX12_wasted.2.2.1 230 = .ok (.iinc 3 1, 3) := by decide +kernel
theorem d_X12_wasted_233 : decode mX12_wasted.2.2.1 233 = .ok (.goto (-212), 3) := by decide +kernel
def mX12_where : MD := (12, yX12_where, cX12_where, 2, some .int)
theorem d_X12_where_0 : decode mX12_where.2.2.1 0 = .ok (.aload_n 0, 1) := by decide +kernel
theorem d_X12_where_1 : decode mX12_where.2.2.1 1 = .ok (.getfield 327, 3) := by decide +kernel
theorem d_X12_where_4 : decode mX12_where.2.2.1 4 = .ok (.ifCond .eq 20, 3) := by decide +kernel
theorem d_X12_where_24 : decode mX12_where.2.2.1 24 = .ok (.iconst (-1), 1) := by decide +kernel
theorem d_X12_where_25 : decode mX12_where.2.2.1 25 = .ok (.ireturn, 1) := by decide +kernel
theorem d_X12_where_7 : decode mX12_where.2.2.1 7 = .ok (.aload_n 0, 1) := by decide +kernel
theorem d_X12_where_8 : decode mX12_where.2.2.1 8 = .ok (.iload_n 1, 1) := by decide +kernel
theorem d_X12_where_9 : decode mX12_where.2.2.1 9 = .ok (.invokevirtual 562, 3) := by decide +kernel
theorem d_X12_where_12 : decode mX12_where.2.2.1 12 = .ok (.ifCond .eq 12, 3) := by decide +kernel
theorem d_X12_where_15 : decode mX12_where.2.2.1 15 = .ok (.aload_n 0, 1) := by decide +kernel
theorem d_X12_where_16 : decode mX12_where.2.2.1 16 = .ok (.getfield 330, 3) := by decide +kernel
theorem d_X12_where_19 : decode mX12_where.2.2.1 19 = .ok (.iload_n 1, 1) := by decide +kernel
theorem d_X12_where_20 : decode mX12_where.2.2.1 20 = .ok (.iaload, 1) := by decide +kernel
theorem d_X12_where_21 : decode mX12_where.2.2.1 21 = .ok (.goto 4, 3) := by decide +kernel
def mX12_fit : MD := (12, yX12_fit, cX12_fit, 10, some .int)
theorem d_X12_fit_0 : decode mX12_fit.2.2.1 0 = .ok (.aload_n 0, 1) := by decide +kernel
theorem d_X12_fit_1 : decode mX12_fit.2.2.1 1 = .ok (.iload_n 1, 1) := by decide +kernel
theorem d_X12_fit_2 : decode mX12_fit.2.2.1 2 = .ok (.invokevirtual 555, 3) := by decide +kernel
theorem d_X12_fit_5 : decode mX12_fit.2.2.1 5 = .ok (.ifCond .eq 10, 3) := by decide +kernel
theorem d_X12_fit_15 : decode mX12_fit.2.2.1 15 = .ok (.iconst (-1), 1) := by decide +kernel
theorem d_X12_fit_16 : decode mX12_fit.2.2.1 16 = .ok (.ireturn, 1) := by decide +kernel
theorem d_X12_fit_8 : decode mX12_fit.2.2.1 8 = .ok (.aload_n 0, 1) := by decide +kernel
theorem d_X12_fit_9 : decode mX12_fit.2.2.1 9 = .ok (.getfield 333, 3) := by decide +kernel
theorem d_X12_fit_12 : decode mX12_fit.2.2.1 12 = .ok (.ifCond .ne 5, 3) := by decide +kernel
theorem d_X12_fit_17 : decode mX12_fit.2.2.1 17 = .ok (.iconst 0, 1) := by decide +kernel
theorem d_X12_fit_18 : decode mX12_fit.2.2.1 18 = .ok (.istore_n 2, 1) := by decide +kernel
theorem d_X12_fit_19 : decode mX12_fit.2.2.1 19 = .ok (.iload_n 2, 1) := by decide +kernel
theorem d_X12_fit_20 : decode mX12_fit.2.2.1 20 = .ok (.aload_n 0, 1) := by decide +kernel
theorem d_X12_fit_21 : decode mX12_fit.2.2.1 21 = .ok (.getfield 333, 3) := by decide +kernel
theorem d_X12_fit_24 : decode mX12_fit.2.2.1 24 = .ok (.if_icmp .ge 172, 3) := by decide +kernel
theorem d_X12_fit_27 : decode mX12_fit.2.2.1 27 = .ok (.iconst 0, 1) := by decide +kernel
theorem d_X12_fit_28 : decode mX12_fit.2.2.1 28 = .ok (.istore_n 3, 1) := by decide +kernel
theorem d_X12_fit_29 : decode mX12_fit.2.2.1 29 = .ok (.iload_n 3, 1) := by decide +kernel
theorem d_X12_fit_30 : decode mX12_fit.2.2.1 30 = .ok (.iconst 3, 1) := by decide +kernel
theorem d_X12_fit_31 : decode mX12_fit.2.2.1 31 = .ok (.if_icmp .ge 25, 3) := by decide +kernel
theorem d_X12_fit_34 : decode mX12_fit.2.2.1 34 = .ok (.aload_n 0, 1) := by decide +kernel
theorem d_X12_fit_35 : decode mX12_fit.2.2.1 35 = .ok (.getfield 171, 3) := by decide +kernel
theorem d_X12_fit_38 : decode mX12_fit.2.2.1 38 = .ok (.iload_n 3, 1) := by decide +kernel
theorem d_X12_fit_39 : decode mX12_fit.2.2.1 39 = .ok (.aload_n 0, 1) := by decide +kernel
theorem d_X12_fit_40 : decode mX12_fit.2.2.1 40 = .ok (.getfield 336, 3) := by decide +kernel
theorem d_X12_fit_43 : decode mX12_fit.2.2.1 43 = .ok (.iconst 3, 1) := by decide +kernel
theorem d_X12_fit_44 : decode mX12_fit.2.2.1 44 = .ok (.iload_n 2, 1) := by decide +kernel
theorem d_X12_fit_45 : decode mX12_fit.2.2.1 45 = .ok (.imul, 1) := by decide +kernel
theorem d_X12_fit_46 : decode mX12_fit.2.2.1 46 = .ok (.iload_n 3, 1) := by decide +kernel
theorem d_X12_fit_47 : decode mX12_fit.2.2.1 47 = .ok (.iadd, 1) := by decide +kernel
theorem d_X12_fit_48 : decode mX12_fit.2.2.1 48 = .ok (.iaload, 1) := by decide +kernel
theorem d_X12_fit_49 : decode mX12_fit.2.2.1 49 = .ok (.iastore, 1) := by decide +kernel
theorem d_X12_fit_50 : decode mX12_fit.2.2.1 50 = .ok (.iinc 3 1, 3) := by decide +kernel
theorem d_X12_fit_53 : decode mX12_fit.2.2.1 53 = .ok (.goto (-24), 3) := by decide +kernel
theorem d_X12_fit_56 : decode mX12_fit.2.2.1 56 = .ok (.aload_n 0, 1) := by decide +kernel
theorem d_X12_fit_57 : decode mX12_fit.2.2.1 57 = .ok (.ldc2_w 686, 3) := by decide +kernel
theorem kl_12_686 : Jvm.Cond.constantLong (e_cn 12) 686 (Int64.ofInt (-1)) ∈ tblG := tblG_in (inT9 (List.mem_of_getElem? (i := 228) rfl)) rfl
theorem d_X12_fit_60 : decode mX12_fit.2.2.1 60 = .ok (.invokevirtual 637, 3) := by decide +kernel
def mX12_runs : MD := (12, yX12_runs, cX12_runs, 6, some .int)
theorem sel_X12_runs : Cond.instanceMethod mX12_runs.2.1 ∈ tblG ∧ Cond.selects mX12_runs.2.1.cls mX12_runs.2.1 mX12_runs.2.1 ∈ tblG := ⟨tblG_in (inT9 (List.mem_of_getElem? (i := 52) rfl)) rfl, tblG_in (inP7 (q := (mX12_runs.2.1, 121)) (List.mem_of_getElem? (i := 10) rfl)) rfl⟩
theorem s_12_637 : e_siteV 12 637 mX12_runs 12 := ⟨tblG_in (inT9 (List.mem_of_getElem? (i := 50) rfl)) rfl, sel_X12_runs.1, sel_X12_runs.2, rfl⟩
theorem d_X12_runs_0 : decode mX12_runs.2.2.1 0 = .ok (.iconst 0, 1) := by decide +kernel
theorem d_X12_runs_1 : decode mX12_runs.2.2.1 1 = .ok (.istore_n 3, 1) := by decide +kernel
theorem d_X12_runs_2 : decode mX12_runs.2.2.1 2 = .ok (.iload_n 3, 1) := by decide +kernel
theorem d_X12_runs_3 : decode mX12_runs.2.2.1 3 = .ok (.bipush 6, 2) := by decide +kernel
theorem d_X12_runs_5 : decode mX12_runs.2.2.1 5 = .ok (.if_icmp .ge 16, 3) := by decide +kernel
theorem d_X12_runs_8 : decode mX12_runs.2.2.1 8 = .ok (.aload_n 0, 1) := by decide +kernel
theorem d_X12_runs_9 : decode mX12_runs.2.2.1 9 = .ok (.getfield 174, 3) := by decide +kernel
theorem d_X12_runs_12 : decode mX12_runs.2.2.1 12 = .ok (.iload_n 3, 1) := by decide +kernel
theorem d_X12_runs_13 : decode mX12_runs.2.2.1 13 = .ok (.iconst 0, 1) := by decide +kernel
theorem d_X12_runs_14 : decode mX12_runs.2.2.1 14 = .ok (.iastore, 1) := by decide +kernel
theorem d_X12_runs_15 : decode mX12_runs.2.2.1 15 = .ok (.iinc 3 1, 3) := by decide +kernel
theorem d_X12_runs_18 : decode mX12_runs.2.2.1 18 = .ok (.goto (-16), 3) := by decide +kernel
theorem d_X12_runs_21 : decode mX12_runs.2.2.1 21 = .ok (.iconst 0, 1) := by decide +kernel
theorem d_X12_runs_22 : decode mX12_runs.2.2.1 22 = .ok (.istore_n 3, 1) := by decide +kernel
theorem d_X12_runs_23 : decode mX12_runs.2.2.1 23 = .ok (.iload_n 3, 1) := by decide +kernel
theorem d_X12_runs_24 : decode mX12_runs.2.2.1 24 = .ok (.bipush 6, 2) := by decide +kernel
theorem d_X12_runs_26 : decode mX12_runs.2.2.1 26 = .ok (.if_icmp .ge 37, 3) := by decide +kernel
theorem d_X12_runs_29 : decode mX12_runs.2.2.1 29 = .ok (.aload_n 0, 1) := by decide +kernel
theorem d_X12_runs_30 : decode mX12_runs.2.2.1 30 = .ok (.getfield 177, 3) := by decide +kernel
theorem d_X12_runs_33 : decode mX12_runs.2.2.1 33 = .ok (.iload_n 3, 1) := by decide +kernel
theorem d_X12_runs_34 : decode mX12_runs.2.2.1 34 = .ok (.iconst 0, 1) := by decide +kernel
theorem d_X12_runs_35 : decode mX12_runs.2.2.1 35 = .ok (.bastore, 1) := by decide +kernel
theorem d_X12_runs_36 : decode mX12_runs.2.2.1 36 = .ok (.aload_n 0, 1) := by decide +kernel
theorem d_X12_runs_37 : decode mX12_runs.2.2.1 37 = .ok (.getfield 180, 3) := by decide +kernel
theorem d_X12_runs_40 : decode mX12_runs.2.2.1 40 = .ok (.iload_n 3, 1) := by decide +kernel
theorem d_X12_runs_41 : decode mX12_runs.2.2.1 41 = .ok (.iconst (-1), 1) := by decide +kernel
theorem d_X12_runs_42 : decode mX12_runs.2.2.1 42 = .ok (.iastore, 1) := by decide +kernel
theorem d_X12_runs_43 : decode mX12_runs.2.2.1 43 = .ok (.aload_n 0, 1) := by decide +kernel
theorem d_X12_runs_44 : decode mX12_runs.2.2.1 44 = .ok (.getfield 183, 3) := by decide +kernel
theorem d_X12_runs_47 : decode mX12_runs.2.2.1 47 = .ok (.iload_n 3, 1) := by decide +kernel
theorem d_X12_runs_48 : decode mX12_runs.2.2.1 48 = .ok (.iconst 0, 1) := by decide +kernel
theorem d_X12_runs_49 : decode mX12_runs.2.2.1 49 = .ok (.iastore, 1) := by decide +kernel
theorem d_X12_runs_50 : decode mX12_runs.2.2.1 50 = .ok (.aload_n 0, 1) := by decide +kernel
theorem d_X12_runs_51 : decode mX12_runs.2.2.1 51 = .ok (.getfield 186, 3) := by decide +kernel
theorem d_X12_runs_54 : decode mX12_runs.2.2.1 54 = .ok (.iload_n 3, 1) := by decide +kernel
theorem d_X12_runs_55 : decode mX12_runs.2.2.1 55 = .ok (.iconst (-1), 1) := by decide +kernel
theorem d_X12_runs_56 : decode mX12_runs.2.2.1 56 = .ok (.iastore, 1) := by decide +kernel
theorem d_X12_runs_57 : decode mX12_runs.2.2.1 57 = .ok (.iinc 3 1, 3) := by decide +kernel
theorem d_X12_runs_60 : decode mX12_runs.2.2.1 60 = .ok (.goto (-37), 3) := by decide +kernel
theorem d_X12_runs_63 : decode mX12_runs.2.2.1 63 = .ok (.iconst 0, 1) := by decide +kernel
theorem d_X12_runs_64 : decode mX12_runs.2.2.1 64 = .ok (.istore_n 3, 1) := by decide +kernel
theorem d_X12_runs_65 : decode mX12_runs.2.2.1 65 = .ok (.iload_n 3, 1) := by decide +kernel
theorem d_X12_runs_66 : decode mX12_runs.2.2.1 66 = .ok (.bipush 8, 2) := by decide +kernel
theorem d_X12_runs_68 : decode mX12_runs.2.2.1 68 = .ok (.if_icmp .ge 16, 3) := by decide +kernel
theorem d_X12_runs_71 : decode mX12_runs.2.2.1 71 = .ok (.aload_n 0, 1) := by decide +kernel
theorem d_X12_runs_72 : decode mX12_runs.2.2.1 72 = .ok (.getfield 189, 3) := by decide +kernel
theorem d_X12_runs_75 : decode mX12_runs.2.2.1 75 = .ok (.iload_n 3, 1) := by decide +kernel
theorem d_X12_runs_76 : decode mX12_runs.2.2.1 76 = .ok (.iconst (-1), 1) := by decide +kernel
theorem d_X12_runs_77 : decode mX12_runs.2.2.1 77 = .ok (.iastore, 1) := by decide +kernel
theorem d_X12_runs_78 : decode mX12_runs.2.2.1 78 = .ok (.iinc 3 1, 3) := by decide +kernel
theorem d_X12_runs_81 : decode mX12_runs.2.2.1 81 = .ok (.goto (-16), 3) := by decide +kernel
theorem d_X12_runs_84 : decode mX12_runs.2.2.1 84 = .ok (.iconst 0, 1) := by decide +kernel
theorem d_X12_runs_85 : decode mX12_runs.2.2.1 85 = .ok (.istore_n 3, 1) := by decide +kernel
theorem d_X12_runs_86 : decode mX12_runs.2.2.1 86 = .ok (.iload_n 3, 1) := by decide +kernel
theorem d_X12_runs_87 : decode mX12_runs.2.2.1 87 = .ok (.bipush 24, 2) := by decide +kernel
theorem d_X12_runs_89 : decode mX12_runs.2.2.1 89 = .ok (.if_icmp .ge 16, 3) := by decide +kernel
theorem d_X12_runs_92 : decode mX12_runs.2.2.1 92 = .ok (.aload_n 0, 1) := by decide +kernel
theorem d_X12_runs_93 : decode mX12_runs.2.2.1 93 = .ok (.getfield 222, 3) := by decide +kernel
theorem d_X12_runs_96 : decode mX12_runs.2.2.1 96 = .ok (.iload_n 3, 1) := by decide +kernel
theorem d_X12_runs_97 : decode mX12_runs.2.2.1 97 = .ok (.iconst 0, 1) := by decide +kernel
theorem d_X12_runs_98 : decode mX12_runs.2.2.1 98 = .ok (.iastore, 1) := by decide +kernel
theorem d_X12_runs_99 : decode mX12_runs.2.2.1 99 = .ok (.iinc 3 1, 3) := by decide +kernel
end
/-! 35.05 -/
section
theorem d_X12_runs_102 : decode mX12_runs.2.2.1 102 = .ok (.goto (-16), 3) := by decide +kernel
theorem d_X12_runs_105 : decode mX12_runs.2.2.1 105 = .ok (.aload_n 0, 1) := by decide +kernel
theorem d_X12_runs_106 : decode mX12_runs.2.2.1 106 = .ok (.iconst 0, 1) := by decide +kernel
theorem d_X12_runs_107 : decode mX12_runs.2.2.1 107 = .ok (.putfield 201, 3) := by decide +kernel
theorem d_X12_runs_110 : decode mX12_runs.2.2.1 110 = .ok (.aload_n 0, 1) := by decide +kernel
theorem d_X12_runs_111 : decode mX12_runs.2.2.1 111 = .ok (.lconst 0, 1) := by decide +kernel
theorem d_X12_runs_112 : decode mX12_runs.2.2.1 112 = .ok (.putfield 204, 3) := by decide +kernel
theorem d_X12_runs_115 : decode mX12_runs.2.2.1 115 = .ok (.aload_n 0, 1) := by decide +kernel
theorem d_X12_runs_116 : decode mX12_runs.2.2.1 116 = .ok (.lload_n 1, 1) := by decide +kernel
theorem d_X12_runs_117 : decode mX12_runs.2.2.1 117 = .ok (.putfield 207, 3) := by decide +kernel
theorem d_X12_runs_120 : decode mX12_runs.2.2.1 120 = .ok (.aload_n 0, 1) := by decide +kernel
theorem d_X12_runs_121 : decode mX12_runs.2.2.1 121 = .ok (.iconst 0, 1) := by decide +kernel
theorem d_X12_runs_122 : decode mX12_runs.2.2.1 122 = .ok (.putfield 210, 3) := by decide +kernel
theorem d_X12_runs_125 : decode mX12_runs.2.2.1 125 = .ok (.aload_n 0, 1) := by decide +kernel
theorem d_X12_runs_126 : decode mX12_runs.2.2.1 126 = .ok (.iconst 0, 1) := by decide +kernel
theorem d_X12_runs_127 : decode mX12_runs.2.2.1 127 = .ok (.putfield 213, 3) := by decide +kernel
theorem d_X12_runs_130 : decode mX12_runs.2.2.1 130 = .ok (.aload_n 0, 1) := by decide +kernel
theorem d_X12_runs_131 : decode mX12_runs.2.2.1 131 = .ok (.iconst 0, 1) := by decide +kernel
theorem d_X12_runs_132 : decode mX12_runs.2.2.1 132 = .ok (.putfield 216, 3) := by decide +kernel
theorem d_X12_runs_135 : decode mX12_runs.2.2.1 135 = .ok (.aload_n 0, 1) := by decide +kernel
theorem d_X12_runs_136 : decode mX12_runs.2.2.1 136 = .ok (.iconst 0, 1) := by decide +kernel
theorem d_X12_runs_137 : decode mX12_runs.2.2.1 137 = .ok (.putfield 219, 3) := by decide +kernel
theorem d_X12_runs_140 : decode mX12_runs.2.2.1 140 = .ok (.aload_n 0, 1) := by decide +kernel
theorem d_X12_runs_141 : decode mX12_runs.2.2.1 141 = .ok (.iconst (-1), 1) := by decide +kernel
theorem d_X12_runs_142 : decode mX12_runs.2.2.1 142 = .ok (.putfield 267, 3) := by decide +kernel
theorem d_X12_runs_145 : decode mX12_runs.2.2.1 145 = .ok (.aload_n 0, 1) := by decide +kernel
theorem d_X12_runs_146 : decode mX12_runs.2.2.1 146 = .ok (.iconst (-1), 1) := by decide +kernel
theorem d_X12_runs_147 : decode mX12_runs.2.2.1 147 = .ok (.putfield 195, 3) := by decide +kernel
theorem d_X12_runs_150 : decode mX12_runs.2.2.1 150 = .ok (.aload_n 0, 1) := by decide +kernel
theorem d_X12_runs_151 : decode mX12_runs.2.2.1 151 = .ok (.iconst 0, 1) := by decide +kernel
theorem d_X12_runs_152 : decode mX12_runs.2.2.1 152 = .ok (.putfield 240, 3) := by decide +kernel
theorem d_X12_runs_155 : decode mX12_runs.2.2.1 155 = .ok (.aload_n 0, 1) := by decide +kernel
theorem d_X12_runs_156 : decode mX12_runs.2.2.1 156 = .ok (.iconst 0, 1) := by decide +kernel
theorem d_X12_runs_157 : decode mX12_runs.2.2.1 157 = .ok (.putfield 252, 3) := by decide +kernel
theorem d_X12_runs_160 : decode mX12_runs.2.2.1 160 = .ok (.iconst 0, 1) := by decide +kernel
theorem d_X12_runs_161 : decode mX12_runs.2.2.1 161 = .ok (.istore_n 3, 1) := by decide +kernel
theorem d_X12_runs_162 : decode mX12_runs.2.2.1 162 = .ok (.iload_n 3, 1) := by decide +kernel
theorem d_X12_runs_163 : decode mX12_runs.2.2.1 163 = .ok (.aload_n 0, 1) := by decide +kernel
theorem d_X12_runs_164 : decode mX12_runs.2.2.1 164 = .ok (.getfield 94, 3) := by decide +kernel
theorem d_X12_runs_167 : decode mX12_runs.2.2.1 167 = .ok (.aload_n 0, 1) := by decide +kernel
theorem d_X12_runs_168 : decode mX12_runs.2.2.1 168 = .ok (.getfield 48, 3) := by decide +kernel
theorem d_X12_runs_171 : decode mX12_runs.2.2.1 171 = .ok (.iaload, 1) := by decide +kernel
theorem d_X12_runs_172 : decode mX12_runs.2.2.1 172 = .ok (.if_icmp .ge 145, 3) := by decide +kernel
theorem d_X12_runs_175 : decode mX12_runs.2.2.1 175 = .ok (.aload_n 0, 1) := by decide +kernel
theorem d_X12_runs_176 : decode mX12_runs.2.2.1 176 = .ok (.getfield 219, 3) := by decide +kernel
theorem d_X12_runs_179 : decode mX12_runs.2.2.1 179 = .ok (.ifCond .ne 138, 3) := by decide +kernel
theorem d_X12_runs_182 : decode mX12_runs.2.2.1 182 = .ok (.sipush 200, 3) := by decide +kernel
theorem d_X12_runs_185 : decode mX12_runs.2.2.1 185 = .ok (.aload_n 0, 1) := by decide +kernel
theorem d_X12_runs_186 : decode mX12_runs.2.2.1 186 = .ok (.getfield 48, 3) := by decide +kernel
theorem d_X12_runs_189 : decode mX12_runs.2.2.1 189 = .ok (.imul, 1) := by decide +kernel
theorem d_X12_runs_190 : decode mX12_runs.2.2.1 190 = .ok (.iload_n 3, 1) := by decide +kernel
theorem d_X12_runs_191 : decode mX12_runs.2.2.1 191 = .ok (.iadd, 1) := by decide +kernel
theorem d_X12_runs_192 : decode mX12_runs.2.2.1 192 = .ok (.istore 4, 2) := by decide +kernel
theorem d_X12_runs_194 : decode mX12_runs.2.2.1 194 = .ok (.iinc 3 1, 3) := by decide +kernel
theorem d_X12_runs_197 : decode mX12_runs.2.2.1 197 = .ok (.aload_n 0, 1) := by decide +kernel
theorem d_X12_runs_198 : decode mX12_runs.2.2.1 198 = .ok (.getfield 97, 3) := by decide +kernel
theorem d_X12_runs_201 : decode mX12_runs.2.2.1 201 = .ok (.iload 4, 2) := by decide +kernel
theorem d_X12_runs_203 : decode mX12_runs.2.2.1 203 = .ok (.iaload, 1) := by decide +kernel
theorem d_X12_runs_204 : decode mX12_runs.2.2.1 204 = .ok (.ifCond .ne 14, 3) := by decide +kernel
theorem d_X12_runs_218 : decode mX12_runs.2.2.1 218 = .ok (.aload_n 0, 1) := by decide +kernel
theorem d_X12_runs_219 : decode mX12_runs.2.2.1 219 = .ok (.aload_n 0, 1) := by decide +kernel
theorem d_X12_runs_220 : decode mX12_runs.2.2.1 220 = .ok (.getfield 100, 3) := by decide +kernel
theorem d_X12_runs_223 : decode mX12_runs.2.2.1 223 = .ok (.iload 4, 2) := by decide +kernel
theorem d_X12_runs_225 : decode mX12_runs.2.2.1 225 = .ok (.iaload, 1) := by decide +kernel
theorem d_X12_runs_226 : decode mX12_runs.2.2.1 226 = .ok (.invokevirtual 577, 3) := by decide +kernel
def mX12_tick : MD := (12, yX12_tick, cX12_tick, 6, some .boolean)
theorem sel_X12_tick : Cond.instanceMethod mX12_tick.2.1 ∈ tblG ∧ Cond.selects mX12_tick.2.1.cls mX12_tick.2.1 mX12_tick.2.1 ∈ tblG := ⟨tblG_in (inT9 (List.mem_of_getElem? (i := 56) rfl)) rfl, tblG_in (inP7 (q := (mX12_tick.2.1, 121)) (List.mem_of_getElem? (i := 11) rfl)) rfl⟩
theorem s_12_577 : e_siteV 12 577 mX12_tick 12 := ⟨tblG_in (inT9 (List.mem_of_getElem? (i := 54) rfl)) rfl, sel_X12_tick.1, sel_X12_tick.2, rfl⟩
theorem d_X12_tick_0 : decode mX12_tick.2.2.1 0 = .ok (.iload_n 1, 1) := by decide +kernel
theorem d_X12_tick_1 : decode mX12_tick.2.2.1 1 = .ok (.iconst (-1), 1) := by decide +kernel
theorem d_X12_tick_2 : decode mX12_tick.2.2.1 2 = .ok (.if_icmp .eq 18, 3) := by decide +kernel
theorem d_X12_tick_5 : decode mX12_tick.2.2.1 5 = .ok (.aload_n 0, 1) := by decide +kernel
theorem d_X12_tick_6 : decode mX12_tick.2.2.1 6 = .ok (.getfield 201, 3) := by decide +kernel
theorem d_X12_tick_9 : decode mX12_tick.2.2.1 9 = .ok (.sipush 2000, 3) := by decide +kernel
theorem d_X12_tick_12 : decode mX12_tick.2.2.1 12 = .ok (.if_icmp .ne 8, 3) := by decide +kernel
theorem d_X12_tick_15 : decode mX12_tick.2.2.1 15 = .ok (.aload_n 0, 1) := by decide +kernel
theorem d_X12_tick_16 : decode mX12_tick.2.2.1 16 = .ok (.iconst 1, 1) := by decide +kernel
theorem d_X12_tick_17 : decode mX12_tick.2.2.1 17 = .ok (.putfield 219, 3) := by decide +kernel
theorem d_X12_tick_20 : decode mX12_tick.2.2.1 20 = .ok (.iload_n 1, 1) := by decide +kernel
theorem d_X12_tick_21 : decode mX12_tick.2.2.1 21 = .ok (.iconst (-1), 1) := by decide +kernel
theorem d_X12_tick_22 : decode mX12_tick.2.2.1 22 = .ok (.if_icmp .ne 7, 3) := by decide +kernel
theorem d_X12_tick_29 : decode mX12_tick.2.2.1 29 = .ok (.aload_n 0, 1) := by decide +kernel
theorem d_X12_tick_30 : decode mX12_tick.2.2.1 30 = .ok (.getfield 51, 3) := by decide +kernel
theorem d_X12_tick_33 : decode mX12_tick.2.2.1 33 = .ok (.aload_n 0, 1) := by decide +kernel
theorem d_X12_tick_34 : decode mX12_tick.2.2.1 34 = .ok (.getfield 48, 3) := by decide +kernel
theorem d_X12_tick_37 : decode mX12_tick.2.2.1 37 = .ok (.iaload, 1) := by decide +kernel
theorem d_X12_tick_38 : decode mX12_tick.2.2.1 38 = .ok (.i2l, 1) := by decide +kernel
theorem d_X12_tick_39 : decode mX12_tick.2.2.1 39 = .ok (.lstore_n 2, 1) := by decide +kernel
theorem d_X12_tick_40 : decode mX12_tick.2.2.1 40 = .ok (.iconst 0, 1) := by decide +kernel
theorem d_X12_tick_41 : decode mX12_tick.2.2.1 41 = .ok (.istore 4, 2) := by decide +kernel
theorem d_X12_tick_43 : decode mX12_tick.2.2.1 43 = .ok (.iload 4, 2) := by decide +kernel
theorem d_X12_tick_45 : decode mX12_tick.2.2.1 45 = .ok (.aload_n 0, 1) := by decide +kernel
theorem d_X12_tick_46 : decode mX12_tick.2.2.1 46 = .ok (.getfield 63, 3) := by decide +kernel
theorem d_X12_tick_49 : decode mX12_tick.2.2.1 49 = .ok (.aload_n 0, 1) := by decide +kernel
theorem d_X12_tick_50 : decode mX12_tick.2.2.1 50 = .ok (.getfield 48, 3) := by decide +kernel
theorem d_X12_tick_53 : decode mX12_tick.2.2.1 53 = .ok (.iaload, 1) := by decide +kernel
theorem d_X12_tick_54 : decode mX12_tick.2.2.1 54 = .ok (.if_icmp .ge 25, 3) := by decide +kernel
theorem d_X12_tick_79 : decode mX12_tick.2.2.1 79 = .ok (.aload_n 0, 1) := by decide +kernel
theorem d_X12_tick_80 : decode mX12_tick.2.2.1 80 = .ok (.getfield 219, 3) := by decide +kernel
theorem d_X12_tick_83 : decode mX12_tick.2.2.1 83 = .ok (.ifCond .ne 36, 3) := by decide +kernel
theorem d_X12_tick_86 : decode mX12_tick.2.2.1 86 = .ok (.iload_n 1, 1) := by decide +kernel
theorem d_X12_tick_87 : decode mX12_tick.2.2.1 87 = .ok (.iconst (-1), 1) := by decide +kernel
theorem d_X12_tick_88 : decode mX12_tick.2.2.1 88 = .ok (.if_icmp .eq 31, 3) := by decide +kernel
theorem d_X12_tick_91 : decode mX12_tick.2.2.1 91 = .ok (.aload_n 0, 1) := by decide +kernel
theorem d_X12_tick_92 : decode mX12_tick.2.2.1 92 = .ok (.getfield 207, 3) := by decide +kernel
theorem d_X12_tick_95 : decode mX12_tick.2.2.1 95 = .ok (.lconst 0, 1) := by decide +kernel
theorem d_X12_tick_96 : decode mX12_tick.2.2.1 96 = .ok (.lcmp, 1) := by decide +kernel
theorem d_X12_tick_97 : decode mX12_tick.2.2.1 97 = .ok (.ifCond .lt 22, 3) := by decide +kernel
theorem d_X12_tick_100 : decode mX12_tick.2.2.1 100 = .ok (.lload_n 2, 1) := by decide +kernel
theorem d_X12_tick_101 : decode mX12_tick.2.2.1 101 = .ok (.aload_n 0, 1) := by decide +kernel
theorem d_X12_tick_102 : decode mX12_tick.2.2.1 102 = .ok (.getfield 207, 3) := by decide +kernel
theorem d_X12_tick_105 : decode mX12_tick.2.2.1 105 = .ok (.aload_n 0, 1) := by decide +kernel
theorem d_X12_tick_106 : decode mX12_tick.2.2.1 106 = .ok (.getfield 204, 3) := by decide +kernel
theorem d_X12_tick_109 : decode mX12_tick.2.2.1 109 = .ok (.lsub, 1) := by decide +kernel
theorem d_X12_tick_110 : decode mX12_tick.2.2.1 110 = .ok (.lcmp, 1) := by decide +kernel
theorem d_X12_tick_111 : decode mX12_tick.2.2.1 111 = .ok (.ifCond .le 8, 3) := by decide +kernel
theorem d_X12_tick_114 : decode mX12_tick.2.2.1 114 = .ok (.aload_n 0, 1) := by decide +kernel
theorem d_X12_tick_115 : decode mX12_tick.2.2.1 115 = .ok (.iconst 2, 1) := by decide +kernel
theorem d_X12_tick_116 : decode mX12_tick.2.2.1 116 = .ok (.putfield 219, 3) := by decide +kernel
theorem d_X12_tick_57 : decode mX12_tick.2.2.1 57 = .ok (.lload_n 2, 1) := by decide +kernel
theorem d_X12_tick_58 : decode mX12_tick.2.2.1 58 = .ok (.aload_n 0, 1) := by decide +kernel
theorem d_X12_tick_59 : decode mX12_tick.2.2.1 59 = .ok (.iload 4, 2) := by decide +kernel
theorem d_X12_tick_61 : decode mX12_tick.2.2.1 61 = .ok (.aload_n 0, 1) := by decide +kernel
theorem d_X12_tick_62 : decode mX12_tick.2.2.1 62 = .ok (.iload 4, 2) := by decide +kernel
theorem d_X12_tick_64 : decode mX12_tick.2.2.1 64 = .ok (.invokevirtual 571, 3) := by decide +kernel
def mX12_stateOf : MD := (12, yX12_stateOf, cX12_stateOf, 2, some .int)
theorem sel_X12_stateOf : Cond.instanceMethod mX12_stateOf.2.1 ∈ tblG ∧ Cond.selects mX12_stateOf.2.1.cls mX12_stateOf.2.1 mX12_stateOf.2.1 ∈ tblG := ⟨tblG_in (inT9 (List.mem_of_getElem? (i := 60) rfl)) rfl, tblG_in (inP7 (q := (mX12_stateOf.2.1, 121)) (List.mem_of_getElem? (i := 12) rfl)) rfl⟩
theorem s_12_571 : e_siteV 12 571 mX12_stateOf 12 := ⟨tblG_in (inT9 (List.mem_of_getElem? (i := 58) rfl)) rfl, sel_X12_stateOf.1, sel_X12_stateOf.2, rfl⟩
theorem d_X12_stateOf_0 : decode mX12_stateOf.2.2.1 0 = .ok (.iload_n 1, 1) := by decide +kernel
theorem d_X12_stateOf_1 : decode mX12_stateOf.2.2.1 1 = .ok (.aload_n 0, 1) := by decide +kernel
theorem d_X12_stateOf_2 : decode mX12_stateOf.2.2.1 2 = .ok (.getfield 192, 3) := by decide +kernel
theorem d_X12_stateOf_5 : decode mX12_stateOf.2.2.1 5 = .ok (.if_icmp .ne 10, 3) := by decide +kernel
theorem d_X12_stateOf_15 : decode mX12_stateOf.2.2.1 15 = .ok (.aload_n 0, 1) := by decide +kernel
theorem d_X12_stateOf_16 : decode mX12_stateOf.2.2.1 16 = .ok (.getfield 177, 3) := by decide +kernel
theorem d_X12_stateOf_19 : decode mX12_stateOf.2.2.1 19 = .ok (.iload_n 1, 1) := by decide +kernel
theorem d_X12_stateOf_20 : decode mX12_stateOf.2.2.1 20 = .ok (.baload, 1) := by decide +kernel
theorem d_X12_stateOf_21 : decode mX12_stateOf.2.2.1 21 = .ok (.ifCond .ne 12, 3) := by decide +kernel
theorem d_X12_stateOf_33 : decode mX12_stateOf.2.2.1 33 = .ok (.iconst 2, 1) := by decide +kernel
theorem d_X12_stateOf_34 : decode mX12_stateOf.2.2.1 34 = .ok (.goto 4, 3) := by decide +kernel
theorem d_X12_stateOf_38 : decode mX12_stateOf.2.2.1 38 = .ok (.ireturn, 1) := by decide +kernel
theorem d_X12_stateOf_24 : decode mX12_stateOf.2.2.1 24 = .ok (.aload_n 0, 1) := by decide +kernel
theorem d_X12_stateOf_25 : decode mX12_stateOf.2.2.1 25 = .ok (.getfield 183, 3) := by decide +kernel
theorem d_X12_stateOf_28 : decode mX12_stateOf.2.2.1 28 = .ok (.iload_n 1, 1) := by decide +kernel
theorem d_X12_stateOf_29 : decode mX12_stateOf.2.2.1 29 = .ok (.iaload, 1) := by decide +kernel
theorem d_X12_stateOf_30 : decode mX12_stateOf.2.2.1 30 = .ok (.ifCond .le 7, 3) := by decide +kernel
theorem d_X12_stateOf_37 : decode mX12_stateOf.2.2.1 37 = .ok (.iconst 0, 1) := by decide +kernel
theorem d_X12_stateOf_8 : decode mX12_stateOf.2.2.1 8 = .ok (.aload_n 0, 1) := by decide +kernel
theorem d_X12_stateOf_9 : decode mX12_stateOf.2.2.1 9 = .ok (.getfield 198, 3) := by decide +kernel
theorem d_X12_stateOf_12 : decode mX12_stateOf.2.2.1 12 = .ok (.goto 26, 3) := by decide +kernel
theorem ok_X12_stateOf : e_m mX12_stateOf 1 := ⟨tblG_in (inT9 (List.mem_of_getElem? (i := 61) rfl)) rfl, plainFor_of_name (by decide), rfl, ini_12, by decide +kernel, by decide⟩
theorem d_X12_tick_67 : decode mX12_tick.2.2.1 67 = .ok (.invokevirtual 574, 3) := by decide +kernel
theorem d_X12_tick_70 : decode mX12_tick.2.2.1 70 = .ok (.i2l, 1) := by decide +kernel
theorem d_X12_tick_71 : decode mX12_tick.2.2.1 71 = .ok (.ladd, 1) := by decide +kernel
theorem d_X12_tick_72 : decode mX12_tick.2.2.1 72 = .ok (.lstore_n 2, 1) := by decide +kernel
theorem d_X12_tick_73 : decode mX12_tick.2.2.1 73 = .ok (.iinc 4 1, 3) := by decide +kernel
theorem d_X12_tick_76 : decode mX12_tick.2.2.1 76 = .ok (.goto (-33), 3) := by decide +kernel
theorem d_X12_tick_119 : decode mX12_tick.2.2.1 119 = .ok (.aload_n 0, 1) := by decide +kernel
theorem d_X12_tick_120 : decode mX12_tick.2.2.1 120 = .ok (.getfield 219, 3) := by decide +kernel
theorem d_X12_tick_123 : decode mX12_tick.2.2.1 123 = .ok (.ifCond .le 5, 3) := by decide +kernel
theorem d_X12_tick_128 : decode mX12_tick.2.2.1 128 = .ok (.iconst 0, 1) := by decide +kernel
theorem d_X12_tick_129 : decode mX12_tick.2.2.1 129 = .ok (.istore 4, 2) := by decide +kernel
theorem d_X12_tick_126 : decode mX12_tick.2.2.1 126 = .ok (.iconst 0, 1) := by decide +kernel
theorem d_X12_tick_127 : decode mX12_tick.2.2.1 127 = .ok (.ireturn, 1) := by decide +kernel
theorem d_X12_tick_131 : decode mX12_tick.2.2.1 131 = .ok (.iload 4, 2) := by decide +kernel
theorem d_X12_tick_133 : decode mX12_tick.2.2.1 133 = .ok (.aload_n 0, 1) := by decide +kernel
theorem d_X12_tick_134 : decode mX12_tick.2.2.1 134 = .ok (.getfield 63, 3) := by decide +kernel
theorem d_X12_tick_137 : decode mX12_tick.2.2.1 137 = .ok (.aload_n 0, 1) := by decide +kernel
theorem d_X12_tick_138 : decode mX12_tick.2.2.1 138 = .ok (.getfield 48, 3) := by decide +kernel
theorem d_X12_tick_141 : decode mX12_tick.2.2.1 141 = .ok (.iaload, 1) := by decide +kernel
theorem d_X12_tick_142 : decode mX12_tick.2.2.1 142 = .ok (.if_icmp .ge 155, 3) := by decide +kernel
theorem d_X12_tick_297 : decode mX12_tick.2.2.1 297 = .ok (.aload_n 0, 1) := by decide +kernel
theorem d_X12_tick_298 : decode mX12_tick.2.2.1 298 = .ok (.getfield 225, 3) := by decide +kernel
theorem d_X12_tick_301 : decode mX12_tick.2.2.1 301 = .ok (.ifCond .eq 13, 3) := by decide +kernel
theorem d_X12_tick_304 : decode mX12_tick.2.2.1 304 = .ok (.aload_n 0, 1) := by decide +kernel
theorem d_X12_tick_305 : decode mX12_tick.2.2.1 305 = .ok (.getfield 228, 3) := by decide +kernel
theorem d_X12_tick_308 : decode mX12_tick.2.2.1 308 = .ok (.aload_n 0, 1) := by decide +kernel
theorem d_X12_tick_309 : decode mX12_tick.2.2.1 309 = .ok (.getfield 201, 3) := by decide +kernel
theorem d_X12_tick_312 : decode mX12_tick.2.2.1 312 = .ok (.iload_n 1, 1) := by decide +kernel
theorem d_X12_tick_313 : decode mX12_tick.2.2.1 313 = .ok (.iastore, 1) := by decide +kernel
theorem d_X12_tick_145 : decode mX12_tick.2.2.1 145 = .ok (.aload_n 0, 1) := by decide +kernel
theorem d_X12_tick_146 : decode mX12_tick.2.2.1 146 = .ok (.iload 4, 2) := by decide +kernel
theorem d_X12_tick_148 : decode mX12_tick.2.2.1 148 = .ok (.invokevirtual 571, 3) := by decide +kernel
theorem d_X12_tick_151 : decode mX12_tick.2.2.1 151 = .ok (.istore 5, 2) := by decide +kernel
theorem d_X12_tick_153 : decode mX12_tick.2.2.1 153 = .ok (.aload_n 0, 1) := by decide +kernel
theorem d_X12_tick_154 : decode mX12_tick.2.2.1 154 = .ok (.getfield 222, 3) := by decide +kernel
theorem d_X12_tick_157 : decode mX12_tick.2.2.1 157 = .ok (.iconst 4, 1) := by decide +kernel
theorem d_X12_tick_158 : decode mX12_tick.2.2.1 158 = .ok (.iload 4, 2) := by decide +kernel
theorem d_X12_tick_160 : decode mX12_tick.2.2.1 160 = .ok (.imul, 1) := by decide +kernel
theorem d_X12_tick_161 : decode mX12_tick.2.2.1 161 = .ok (.iload 5, 2) := by decide +kernel
theorem d_X12_tick_163 : decode mX12_tick.2.2.1 163 = .ok (.iadd, 1) := by decide +kernel
theorem d_X12_tick_164 : decode mX12_tick.2.2.1 164 = .ok (.dup2, 1) := by decide +kernel
theorem d_X12_tick_165 : decode mX12_tick.2.2.1 165 = .ok (.iaload, 1) := by decide +kernel
theorem d_X12_tick_166 : decode mX12_tick.2.2.1 166 = .ok (.iconst 1, 1) := by decide +kernel
theorem d_X12_tick_167 : decode mX12_tick.2.2.1 167 = .ok (.iadd, 1) := by decide +kernel
theorem d_X12_tick_168 : decode mX12_tick.2.2.1 168 = .ok (.iastore, 1) := by decide +kernel
theorem d_X12_tick_169 : decode mX12_tick.2.2.1 169 = .ok (.aload_n 0, 1) := by decide +kernel
theorem d_X12_tick_170 : decode mX12_tick.2.2.1 170 = .ok (.getfield 225, 3) := by decide +kernel
theorem d_X12_tick_173 : decode mX12_tick.2.2.1 173 = .ok (.ifCond .eq 91, 3) := by decide +kernel
theorem d_X12_tick_176 : decode mX12_tick.2.2.1 176 = .ok (.aload_n 0, 1) := by decide +kernel
theorem d_X12_tick_177 : decode mX12_tick.2.2.1 177 = .ok (.getfield 231, 3) := by decide +kernel
theorem d_X12_tick_180 : decode mX12_tick.2.2.1 180 = .ok (.sipush 2100, 3) := by decide +kernel
theorem d_X12_tick_183 : decode mX12_tick.2.2.1 183 = .ok (.iload 4, 2) := by decide +kernel
theorem d_X12_tick_185 : decode mX12_tick.2.2.1 185 = .ok (.imul, 1) := by decide +kernel
theorem d_X12_tick_186 : decode mX12_tick.2.2.1 186 = .ok (.aload_n 0, 1) := by decide +kernel
theorem d_X12_tick_187 : decode mX12_tick.2.2.1 187 = .ok (.getfield 201, 3) := by decide +kernel
theorem d_X12_tick_190 : decode mX12_tick.2.2.1 190 = .ok (.iadd, 1) := by decide +kernel
theorem d_X12_tick_191 : decode mX12_tick.2.2.1 191 = .ok (.iload 5, 2) := by decide +kernel
theorem d_X12_tick_193 : decode mX12_tick.2.2.1 193 = .ok (.iastore, 1) := by decide +kernel
theorem d_X12_tick_194 : decode mX12_tick.2.2.1 194 = .ok (.aload_n 0, 1) := by decide +kernel
theorem d_X12_tick_195 : decode mX12_tick.2.2.1 195 = .ok (.getfield 234, 3) := by decide +kernel
theorem d_X12_tick_198 : decode mX12_tick.2.2.1 198 = .ok (.sipush 2100, 3) := by decide +kernel
theorem d_X12_tick_201 : decode mX12_tick.2.2.1 201 = .ok (.iload 4, 2) := by decide +kernel
theorem d_X12_tick_203 : decode mX12_tick.2.2.1 203 = .ok (.imul, 1) := by decide +kernel
theorem d_X12_tick_204 : decode mX12_tick.2.2.1 204 = .ok (.aload_n 0, 1) := by decide +kernel
theorem d_X12_tick_205 : decode mX12_tick.2.2.1 205 = .ok (.getfield 201, 3) := by decide +kernel
theorem d_X12_tick_208 : decode mX12_tick.2.2.1 208 = .ok (.iadd, 1) := by decide +kernel
theorem d_X12_tick_209 : decode mX12_tick.2.2.1 209 = .ok (.iload 5, 2) := by decide +kernel
theorem d_X12_tick_211 : decode mX12_tick.2.2.1 211 = .ok (.iconst 2, 1) := by decide +kernel
theorem d_X12_tick_212 : decode mX12_tick.2.2.1 212 = .ok (.if_icmp .ne 13, 3) := by decide +kernel
theorem d_X12_tick_225 : decode mX12_tick.2.2.1 225 = .ok (.iload_n 1, 1) := by decide +kernel
theorem d_X12_tick_215 : decode mX12_tick.2.2.1 215 = .ok (.aload_n 0, 1) := by decide +kernel
theorem d_X12_tick_216 : decode mX12_tick.2.2.1 216 = .ok (.getfield 186, 3) := by decide +kernel
theorem d_X12_tick_219 : decode mX12_tick.2.2.1 219 = .ok (.iload 4, 2) := by decide +kernel
theorem d_X12_tick_221 : decode mX12_tick.2.2.1 221 = .ok (.iaload, 1) := by decide +kernel
theorem d_X12_tick_222 : decode mX12_tick.2.2.1 222 = .ok (.goto 4, 3) := by decide +kernel
theorem d_X12_tick_314 : decode mX12_tick.2.2.1 314 = .ok (.aload_n 0, 1) := by decide +kernel
theorem d_X12_tick_315 : decode mX12_tick.2.2.1 315 = .ok (.dup, 1) := by decide +kernel
theorem d_X12_tick_316 : decode mX12_tick.2.2.1 316 = .ok (.getfield 204, 3) := by decide +kernel
theorem d_X12_tick_319 : decode mX12_tick.2.2.1 319 = .ok (.lload_n 2, 1) := by decide +kernel
theorem d_X12_tick_320 : decode mX12_tick.2.2.1 320 = .ok (.ladd, 1) := by decide +kernel
end
/-! 35.06 -/
section
theorem d_X12_tick_321 : decode mX12_tick.2.2.1 321 = .ok (.putfield 204, 3) := by decide +kernel
theorem d_X12_tick_324 : decode mX12_tick.2.2.1 324 = .ok (.aload_n 0, 1) := by decide +kernel
theorem d_X12_tick_325 : decode mX12_tick.2.2.1 325 = .ok (.dup, 1) := by decide +kernel
theorem d_X12_tick_326 : decode mX12_tick.2.2.1 326 = .ok (.getfield 201, 3) := by decide +kernel
theorem d_X12_tick_329 : decode mX12_tick.2.2.1 329 = .ok (.iconst 1, 1) := by decide +kernel
theorem d_X12_tick_330 : decode mX12_tick.2.2.1 330 = .ok (.iadd, 1) := by decide +kernel
theorem d_X12_tick_331 : decode mX12_tick.2.2.1 331 = .ok (.putfield 201, 3) := by decide +kernel
theorem d_X12_tick_334 : decode mX12_tick.2.2.1 334 = .ok (.iconst 1, 1) := by decide +kernel
theorem d_X12_tick_335 : decode mX12_tick.2.2.1 335 = .ok (.ireturn, 1) := by decide +kernel
theorem d_X12_tick_226 : decode mX12_tick.2.2.1 226 = .ok (.iastore, 1) := by decide +kernel
theorem d_X12_tick_227 : decode mX12_tick.2.2.1 227 = .ok (.aload_n 0, 1) := by decide +kernel
theorem d_X12_tick_228 : decode mX12_tick.2.2.1 228 = .ok (.getfield 237, 3) := by decide +kernel
theorem d_X12_tick_231 : decode mX12_tick.2.2.1 231 = .ok (.sipush 2100, 3) := by decide +kernel
theorem d_X12_tick_234 : decode mX12_tick.2.2.1 234 = .ok (.iload 4, 2) := by decide +kernel
theorem d_X12_tick_236 : decode mX12_tick.2.2.1 236 = .ok (.imul, 1) := by decide +kernel
theorem d_X12_tick_237 : decode mX12_tick.2.2.1 237 = .ok (.aload_n 0, 1) := by decide +kernel
theorem d_X12_tick_238 : decode mX12_tick.2.2.1 238 = .ok (.getfield 201, 3) := by decide +kernel
theorem d_X12_tick_241 : decode mX12_tick.2.2.1 241 = .ok (.iadd, 1) := by decide +kernel
theorem d_X12_tick_242 : decode mX12_tick.2.2.1 242 = .ok (.aload_n 0, 1) := by decide +kernel
theorem d_X12_tick_243 : decode mX12_tick.2.2.1 243 = .ok (.getfield 177, 3) := by decide +kernel
theorem d_X12_tick_246 : decode mX12_tick.2.2.1 246 = .ok (.iload 4, 2) := by decide +kernel
theorem d_X12_tick_248 : decode mX12_tick.2.2.1 248 = .ok (.baload, 1) := by decide +kernel
theorem d_X12_tick_249 : decode mX12_tick.2.2.1 249 = .ok (.ifCond .eq 13, 3) := by decide +kernel
theorem d_X12_tick_262 : decode mX12_tick.2.2.1 262 = .ok (.iconst (-1), 1) := by decide +kernel
theorem d_X12_tick_252 : decode mX12_tick.2.2.1 252 = .ok (.aload_n 0, 1) := by decide +kernel
theorem d_X12_tick_253 : decode mX12_tick.2.2.1 253 = .ok (.getfield 180, 3) := by decide +kernel
theorem d_X12_tick_256 : decode mX12_tick.2.2.1 256 = .ok (.iload 4, 2) := by decide +kernel
theorem d_X12_tick_258 : decode mX12_tick.2.2.1 258 = .ok (.iaload, 1) := by decide +kernel
theorem d_X12_tick_259 : decode mX12_tick.2.2.1 259 = .ok (.goto 4, 3) := by decide +kernel
theorem d_X12_tick_263 : decode mX12_tick.2.2.1 263 = .ok (.iastore, 1) := by decide +kernel
theorem d_X12_tick_264 : decode mX12_tick.2.2.1 264 = .ok (.iload 5, 2) := by decide +kernel
theorem d_X12_tick_266 : decode mX12_tick.2.2.1 266 = .ok (.iconst 2, 1) := by decide +kernel
theorem d_X12_tick_267 : decode mX12_tick.2.2.1 267 = .ok (.if_icmp .ne 24, 3) := by decide +kernel
theorem d_X12_tick_270 : decode mX12_tick.2.2.1 270 = .ok (.aload_n 0, 1) := by decide +kernel
theorem d_X12_tick_271 : decode mX12_tick.2.2.1 271 = .ok (.getfield 177, 3) := by decide +kernel
theorem d_X12_tick_274 : decode mX12_tick.2.2.1 274 = .ok (.iload 4, 2) := by decide +kernel
theorem d_X12_tick_276 : decode mX12_tick.2.2.1 276 = .ok (.baload, 1) := by decide +kernel
theorem d_X12_tick_277 : decode mX12_tick.2.2.1 277 = .ok (.ifCond .ne 14, 3) := by decide +kernel
theorem d_X12_tick_280 : decode mX12_tick.2.2.1 280 = .ok (.aload_n 0, 1) := by decide +kernel
theorem d_X12_tick_281 : decode mX12_tick.2.2.1 281 = .ok (.getfield 183, 3) := by decide +kernel
theorem d_X12_tick_284 : decode mX12_tick.2.2.1 284 = .ok (.iload 4, 2) := by decide +kernel
theorem d_X12_tick_286 : decode mX12_tick.2.2.1 286 = .ok (.dup2, 1) := by decide +kernel
theorem d_X12_tick_287 : decode mX12_tick.2.2.1 287 = .ok (.iaload, 1) := by decide +kernel
theorem d_X12_tick_288 : decode mX12_tick.2.2.1 288 = .ok (.iconst 1, 1) := by decide +kernel
theorem d_X12_tick_289 : decode mX12_tick.2.2.1 289 = .ok (.isub, 1) := by decide +kernel
theorem d_X12_tick_290 : decode mX12_tick.2.2.1 290 = .ok (.iastore, 1) := by decide +kernel
theorem d_X12_tick_291 : decode mX12_tick.2.2.1 291 = .ok (.iinc 4 1, 3) := by decide +kernel
theorem d_X12_tick_294 : decode mX12_tick.2.2.1 294 = .ok (.goto (-163), 3) := by decide +kernel
theorem ok_X12_tick : e_m mX12_tick 1 := ⟨tblG_in (inT9 (List.mem_of_getElem? (i := 57) rfl)) rfl, plainFor_of_name (by decide), rfl, ini_12, by decide +kernel, by decide⟩
theorem d_X12_runs_229 : decode mX12_runs.2.2.1 229 = .ok (.istore 5, 2) := by decide +kernel
theorem d_X12_runs_231 : decode mX12_runs.2.2.1 231 = .ok (.iload 5, 2) := by decide +kernel
theorem d_X12_runs_233 : decode mX12_runs.2.2.1 233 = .ok (.ifCond .eq 13, 3) := by decide +kernel
theorem d_X12_runs_236 : decode mX12_runs.2.2.1 236 = .ok (.aload_n 0, 1) := by decide +kernel
theorem d_X12_runs_237 : decode mX12_runs.2.2.1 237 = .ok (.dup, 1) := by decide +kernel
theorem d_X12_runs_238 : decode mX12_runs.2.2.1 238 = .ok (.getfield 216, 3) := by decide +kernel
theorem d_X12_runs_241 : decode mX12_runs.2.2.1 241 = .ok (.iconst 1, 1) := by decide +kernel
theorem d_X12_runs_242 : decode mX12_runs.2.2.1 242 = .ok (.iadd, 1) := by decide +kernel
theorem d_X12_runs_243 : decode mX12_runs.2.2.1 243 = .ok (.putfield 216, 3) := by decide +kernel
theorem d_X12_runs_207 : decode mX12_runs.2.2.1 207 = .ok (.aload_n 0, 1) := by decide +kernel
theorem d_X12_runs_208 : decode mX12_runs.2.2.1 208 = .ok (.getfield 112, 3) := by decide +kernel
theorem d_X12_runs_211 : decode mX12_runs.2.2.1 211 = .ok (.iload 4, 2) := by decide +kernel
theorem d_X12_runs_213 : decode mX12_runs.2.2.1 213 = .ok (.iaload, 1) := by decide +kernel
theorem d_X12_runs_214 : decode mX12_runs.2.2.1 214 = .ok (.istore_n 3, 1) := by decide +kernel
theorem d_X12_runs_215 : decode mX12_runs.2.2.1 215 = .ok (.goto (-53), 3) := by decide +kernel
theorem d_X12_runs_317 : decode mX12_runs.2.2.1 317 = .ok (.aload_n 0, 1) := by decide +kernel
theorem d_X12_runs_318 : decode mX12_runs.2.2.1 318 = .ok (.getfield 219, 3) := by decide +kernel
theorem d_X12_runs_321 : decode mX12_runs.2.2.1 321 = .ok (.ifCond .le 8, 3) := by decide +kernel
theorem d_X12_runs_329 : decode mX12_runs.2.2.1 329 = .ok (.iconst 1, 1) := by decide +kernel
theorem d_X12_runs_330 : decode mX12_runs.2.2.1 330 = .ok (.istore 4, 2) := by decide +kernel
theorem d_X12_runs_332 : decode mX12_runs.2.2.1 332 = .ok (.iload 4, 2) := by decide +kernel
theorem d_X12_runs_334 : decode mX12_runs.2.2.1 334 = .ok (.ifCond .eq 75, 3) := by decide +kernel
theorem d_X12_runs_337 : decode mX12_runs.2.2.1 337 = .ok (.iconst 0, 1) := by decide +kernel
theorem d_X12_runs_338 : decode mX12_runs.2.2.1 338 = .ok (.istore 4, 2) := by decide +kernel
theorem d_X12_runs_340 : decode mX12_runs.2.2.1 340 = .ok (.iconst 0, 1) := by decide +kernel
theorem d_X12_runs_341 : decode mX12_runs.2.2.1 341 = .ok (.istore 5, 2) := by decide +kernel
theorem d_X12_runs_343 : decode mX12_runs.2.2.1 343 = .ok (.iload 5, 2) := by decide +kernel
theorem d_X12_runs_345 : decode mX12_runs.2.2.1 345 = .ok (.aload_n 0, 1) := by decide +kernel
theorem d_X12_runs_346 : decode mX12_runs.2.2.1 346 = .ok (.getfield 63, 3) := by decide +kernel
theorem d_X12_runs_349 : decode mX12_runs.2.2.1 349 = .ok (.aload_n 0, 1) := by decide +kernel
theorem d_X12_runs_350 : decode mX12_runs.2.2.1 350 = .ok (.getfield 48, 3) := by decide +kernel
theorem d_X12_runs_353 : decode mX12_runs.2.2.1 353 = .ok (.iaload, 1) := by decide +kernel
theorem d_X12_runs_354 : decode mX12_runs.2.2.1 354 = .ok (.if_icmp .ge 41, 3) := by decide +kernel
theorem d_X12_runs_395 : decode mX12_runs.2.2.1 395 = .ok (.iload 4, 2) := by decide +kernel
theorem d_X12_runs_397 : decode mX12_runs.2.2.1 397 = .ok (.ifCond .eq (-65), 3) := by decide +kernel
theorem d_X12_runs_357 : decode mX12_runs.2.2.1 357 = .ok (.iload 4, 2) := by decide +kernel
theorem d_X12_runs_359 : decode mX12_runs.2.2.1 359 = .ok (.ifCond .ne 23, 3) := by decide +kernel
theorem d_X12_runs_362 : decode mX12_runs.2.2.1 362 = .ok (.aload_n 0, 1) := by decide +kernel
theorem d_X12_runs_363 : decode mX12_runs.2.2.1 363 = .ok (.getfield 177, 3) := by decide +kernel
theorem d_X12_runs_366 : decode mX12_runs.2.2.1 366 = .ok (.iload 5, 2) := by decide +kernel
theorem d_X12_runs_368 : decode mX12_runs.2.2.1 368 = .ok (.baload, 1) := by decide +kernel
theorem d_X12_runs_369 : decode mX12_runs.2.2.1 369 = .ok (.ifCond .ne 17, 3) := by decide +kernel
theorem d_X12_runs_372 : decode mX12_runs.2.2.1 372 = .ok (.aload_n 0, 1) := by decide +kernel
theorem d_X12_runs_373 : decode mX12_runs.2.2.1 373 = .ok (.getfield 183, 3) := by decide +kernel
theorem d_X12_runs_376 : decode mX12_runs.2.2.1 376 = .ok (.iload 5, 2) := by decide +kernel
theorem d_X12_runs_378 : decode mX12_runs.2.2.1 378 = .ok (.iaload, 1) := by decide +kernel
theorem d_X12_runs_379 : decode mX12_runs.2.2.1 379 = .ok (.ifCond .le 7, 3) := by decide +kernel
theorem d_X12_runs_409 : decode mX12_runs.2.2.1 409 = .ok (.iconst 0, 1) := by decide +kernel
theorem d_X12_runs_410 : decode mX12_runs.2.2.1 410 = .ok (.ireturn, 1) := by decide +kernel
theorem d_X12_runs_386 : decode mX12_runs.2.2.1 386 = .ok (.iconst 0, 1) := by decide +kernel
theorem d_X12_runs_382 : decode mX12_runs.2.2.1 382 = .ok (.iconst 1, 1) := by decide +kernel
theorem d_X12_runs_383 : decode mX12_runs.2.2.1 383 = .ok (.goto 4, 3) := by decide +kernel
theorem d_X12_runs_387 : decode mX12_runs.2.2.1 387 = .ok (.istore 4, 2) := by decide +kernel
theorem d_X12_runs_389 : decode mX12_runs.2.2.1 389 = .ok (.iinc 5 1, 3) := by decide +kernel
theorem d_X12_runs_392 : decode mX12_runs.2.2.1 392 = .ok (.goto (-49), 3) := by decide +kernel
theorem d_X12_runs_400 : decode mX12_runs.2.2.1 400 = .ok (.aload_n 0, 1) := by decide +kernel
theorem d_X12_runs_401 : decode mX12_runs.2.2.1 401 = .ok (.iconst (-1), 1) := by decide +kernel
theorem d_X12_runs_402 : decode mX12_runs.2.2.1 402 = .ok (.invokevirtual 577, 3) := by decide +kernel
theorem d_X12_tick_25 : decode mX12_tick.2.2.1 25 = .ok (.lconst 0, 1) := by decide +kernel
theorem d_X12_tick_26 : decode mX12_tick.2.2.1 26 = .ok (.goto 13, 3) := by decide +kernel
theorem d_X12_runs_405 : decode mX12_runs.2.2.1 405 = .ok (.pop, 1) := by decide +kernel
theorem d_X12_runs_406 : decode mX12_runs.2.2.1 406 = .ok (.goto (-74), 3) := by decide +kernel
theorem d_X12_runs_246 : decode mX12_runs.2.2.1 246 = .ok (.iload 5, 2) := by decide +kernel
theorem d_X12_runs_248 : decode mX12_runs.2.2.1 248 = .ok (.ifCond .eq 37, 3) := by decide +kernel
theorem d_X12_runs_251 : decode mX12_runs.2.2.1 251 = .ok (.aload_n 0, 1) := by decide +kernel
theorem d_X12_runs_252 : decode mX12_runs.2.2.1 252 = .ok (.getfield 97, 3) := by decide +kernel
theorem d_X12_runs_255 : decode mX12_runs.2.2.1 255 = .ok (.iload 4, 2) := by decide +kernel
theorem d_X12_runs_257 : decode mX12_runs.2.2.1 257 = .ok (.iaload, 1) := by decide +kernel
theorem d_X12_runs_258 : decode mX12_runs.2.2.1 258 = .ok (.bipush 7, 2) := by decide +kernel
theorem d_X12_runs_260 : decode mX12_runs.2.2.1 260 = .ok (.if_icmp .lt 25, 3) := by decide +kernel
theorem d_X12_runs_263 : decode mX12_runs.2.2.1 263 = .ok (.aload_n 0, 1) := by decide +kernel
theorem d_X12_runs_264 : decode mX12_runs.2.2.1 264 = .ok (.iload 4, 2) := by decide +kernel
theorem d_X12_runs_266 : decode mX12_runs.2.2.1 266 = .ok (.invokevirtual 614, 3) := by decide +kernel
def mX12_works : MD := (12, yX12_works, cX12_works, 5, some .long)
theorem sel_X12_works : Cond.instanceMethod mX12_works.2.1 ∈ tblG ∧ Cond.selects mX12_works.2.1.cls mX12_works.2.1 mX12_works.2.1 ∈ tblG := ⟨tblG_in (inT9 (List.mem_of_getElem? (i := 76) rfl)) rfl, tblG_in (inP8 (q := (mX12_works.2.1, 121)) (List.mem_of_getElem? (i := 0) rfl)) rfl⟩
theorem s_12_614 : e_siteV 12 614 mX12_works 12 := ⟨tblG_in (inT9 (List.mem_of_getElem? (i := 74) rfl)) rfl, sel_X12_works.1, sel_X12_works.2, rfl⟩
theorem d_X12_works_0 : decode mX12_works.2.2.1 0 = .ok (.iconst 0, 1) := by decide +kernel
theorem d_X12_works_1 : decode mX12_works.2.2.1 1 = .ok (.istore_n 2, 1) := by decide +kernel
theorem d_X12_works_2 : decode mX12_works.2.2.1 2 = .ok (.sipush 900, 3) := by decide +kernel
theorem d_X12_works_5 : decode mX12_works.2.2.1 5 = .ok (.aload_n 0, 1) := by decide +kernel
theorem d_X12_works_6 : decode mX12_works.2.2.1 6 = .ok (.getfield 48, 3) := by decide +kernel
theorem d_X12_works_9 : decode mX12_works.2.2.1 9 = .ok (.imul, 1) := by decide +kernel
theorem d_X12_works_10 : decode mX12_works.2.2.1 10 = .ok (.aload_n 0, 1) := by decide +kernel
theorem d_X12_works_11 : decode mX12_works.2.2.1 11 = .ok (.getfield 106, 3) := by decide +kernel
theorem d_X12_works_14 : decode mX12_works.2.2.1 14 = .ok (.iload_n 1, 1) := by decide +kernel
theorem d_X12_works_15 : decode mX12_works.2.2.1 15 = .ok (.iaload, 1) := by decide +kernel
theorem d_X12_works_16 : decode mX12_works.2.2.1 16 = .ok (.iadd, 1) := by decide +kernel
theorem d_X12_works_17 : decode mX12_works.2.2.1 17 = .ok (.istore_n 3, 1) := by decide +kernel
theorem d_X12_works_18 : decode mX12_works.2.2.1 18 = .ok (.iload_n 3, 1) := by decide +kernel
theorem d_X12_works_19 : decode mX12_works.2.2.1 19 = .ok (.sipush 900, 3) := by decide +kernel
theorem d_X12_works_22 : decode mX12_works.2.2.1 22 = .ok (.aload_n 0, 1) := by decide +kernel
theorem d_X12_works_23 : decode mX12_works.2.2.1 23 = .ok (.getfield 48, 3) := by decide +kernel
theorem d_X12_works_26 : decode mX12_works.2.2.1 26 = .ok (.imul, 1) := by decide +kernel
theorem d_X12_works_27 : decode mX12_works.2.2.1 27 = .ok (.aload_n 0, 1) := by decide +kernel
theorem d_X12_works_28 : decode mX12_works.2.2.1 28 = .ok (.getfield 109, 3) := by decide +kernel
theorem d_X12_works_31 : decode mX12_works.2.2.1 31 = .ok (.iload_n 1, 1) := by decide +kernel
theorem d_X12_works_32 : decode mX12_works.2.2.1 32 = .ok (.iaload, 1) := by decide +kernel
theorem d_X12_works_33 : decode mX12_works.2.2.1 33 = .ok (.iadd, 1) := by decide +kernel
theorem d_X12_works_34 : decode mX12_works.2.2.1 34 = .ok (.if_icmp .ge 105, 3) := by decide +kernel
theorem d_X12_works_139 : decode mX12_works.2.2.1 139 = .ok (.aload_n 0, 1) := by decide +kernel
theorem d_X12_works_140 : decode mX12_works.2.2.1 140 = .ok (.getfield 264, 3) := by decide +kernel
theorem d_X12_works_143 : decode mX12_works.2.2.1 143 = .ok (.iconst 0, 1) := by decide +kernel
theorem d_X12_works_144 : decode mX12_works.2.2.1 144 = .ok (.laload, 1) := by decide +kernel
theorem d_X12_works_145 : decode mX12_works.2.2.1 145 = .ok (.lreturn, 1) := by decide +kernel
theorem d_X12_works_37 : decode mX12_works.2.2.1 37 = .ok (.aload_n 0, 1) := by decide +kernel
theorem d_X12_works_38 : decode mX12_works.2.2.1 38 = .ok (.getfield 115, 3) := by decide +kernel
theorem d_X12_works_41 : decode mX12_works.2.2.1 41 = .ok (.iload_n 3, 1) := by decide +kernel
theorem d_X12_works_42 : decode mX12_works.2.2.1 42 = .ok (.iaload, 1) := by decide +kernel
theorem d_X12_works_43 : decode mX12_works.2.2.1 43 = .ok (.istore 4, 2) := by decide +kernel
theorem d_X12_works_45 : decode mX12_works.2.2.1 45 = .ok (.iload 4, 2) := by decide +kernel
theorem d_X12_works_47 : decode mX12_works.2.2.1 47 = .ok (.iconst 5, 1) := by decide +kernel
theorem d_X12_works_48 : decode mX12_works.2.2.1 48 = .ok (.if_icmp .gt 27, 3) := by decide +kernel
theorem d_X12_works_75 : decode mX12_works.2.2.1 75 = .ok (.iload 4, 2) := by decide +kernel
theorem d_X12_works_77 : decode mX12_works.2.2.1 77 = .ok (.bipush 18, 2) := by decide +kernel
theorem d_X12_works_79 : decode mX12_works.2.2.1 79 = .ok (.if_icmp .ne 24, 3) := by decide +kernel
theorem d_X12_works_103 : decode mX12_works.2.2.1 103 = .ok (.iinc 2 (-1), 3) := by decide +kernel
theorem d_X12_works_106 : decode mX12_works.2.2.1 106 = .ok (.aload_n 0, 1) := by decide +kernel
theorem d_X12_works_107 : decode mX12_works.2.2.1 107 = .ok (.getfield 264, 3) := by decide +kernel
theorem d_X12_works_110 : decode mX12_works.2.2.1 110 = .ok (.iload_n 2, 1) := by decide +kernel
theorem d_X12_works_111 : decode mX12_works.2.2.1 111 = .ok (.iconst 1, 1) := by decide +kernel
theorem d_X12_works_112 : decode mX12_works.2.2.1 112 = .ok (.isub, 1) := by decide +kernel
theorem d_X12_works_113 : decode mX12_works.2.2.1 113 = .ok (.iload 4, 2) := by decide +kernel
theorem d_X12_works_115 : decode mX12_works.2.2.1 115 = .ok (.aload_n 0, 1) := by decide +kernel
theorem d_X12_works_116 : decode mX12_works.2.2.1 116 = .ok (.getfield 264, 3) := by decide +kernel
theorem d_X12_works_119 : decode mX12_works.2.2.1 119 = .ok (.iload_n 2, 1) := by decide +kernel
theorem d_X12_works_120 : decode mX12_works.2.2.1 120 = .ok (.iconst 1, 1) := by decide +kernel
theorem d_X12_works_121 : decode mX12_works.2.2.1 121 = .ok (.isub, 1) := by decide +kernel
theorem d_X12_works_122 : decode mX12_works.2.2.1 122 = .ok (.laload, 1) := by decide +kernel
theorem d_X12_works_123 : decode mX12_works.2.2.1 123 = .ok (.aload_n 0, 1) := by decide +kernel
theorem d_X12_works_124 : decode mX12_works.2.2.1 124 = .ok (.getfield 264, 3) := by decide +kernel
theorem d_X12_works_127 : decode mX12_works.2.2.1 127 = .ok (.iload_n 2, 1) := by decide +kernel
theorem d_X12_works_128 : decode mX12_works.2.2.1 128 = .ok (.laload, 1) := by decide +kernel
theorem d_X12_works_129 : decode mX12_works.2.2.1 129 = .ok (.invokestatic 610, 3) := by decide +kernel
def mX12_joined : MD := (12, yX12_joined, cX12_joined, 5, some .long)
theorem s_12_610 : e_siteS 12 610 mX12_joined := ⟨tblG_in (inT9 (List.mem_of_getElem? (i := 82) rfl)) rfl, tblG_in (inT9 (List.mem_of_getElem? (i := 83) rfl)) rfl⟩
theorem d_X12_joined_0 : decode mX12_joined.2.2.1 0 = .ok (.iload_n 0, 1) := by decide +kernel
theorem d_X12_joined_1 : decode mX12_joined.2.2.1 1 = .ok (.tableswitch 170 6 16 #[59, 66, 73, 80, 86, 106, 118, 130, 142, 154, 166], 59) := by decide +kernel
theorem d_X12_joined_171 : decode mX12_joined.2.2.1 171 = .ok (.lload_n 1, 1) := by decide +kernel
theorem d_X12_joined_172 : decode mX12_joined.2.2.1 172 = .ok (.lload_n 3, 1) := by decide +kernel
theorem d_X12_joined_173 : decode mX12_joined.2.2.1 173 = .ok (.ladd, 1) := by decide +kernel
theorem d_X12_joined_174 : decode mX12_joined.2.2.1 174 = .ok (.lconst 0, 1) := by decide +kernel
theorem d_X12_joined_175 : decode mX12_joined.2.2.1 175 = .ok (.lcmp, 1) := by decide +kernel
theorem d_X12_joined_176 : decode mX12_joined.2.2.1 176 = .ok (.ifCond .le 7, 3) := by decide +kernel
theorem d_X12_joined_183 : decode mX12_joined.2.2.1 183 = .ok (.lconst 0, 1) := by decide +kernel
theorem d_X12_joined_184 : decode mX12_joined.2.2.1 184 = .ok (.lreturn, 1) := by decide +kernel
theorem d_X12_joined_179 : decode mX12_joined.2.2.1 179 = .ok (.lconst 1, 1) := by decide +kernel
theorem d_X12_joined_180 : decode mX12_joined.2.2.1 180 = .ok (.goto 4, 3) := by decide +kernel
theorem d_X12_joined_167 : decode mX12_joined.2.2.1 167 = .ok (.lload_n 1, 1) := by decide +kernel
theorem d_X12_joined_168 : decode mX12_joined.2.2.1 168 = .ok (.lload_n 3, 1) := by decide +kernel
theorem d_X12_joined_169 : decode mX12_joined.2.2.1 169 = .ok (.lmul, 1) := by decide +kernel
theorem d_X12_joined_170 : decode mX12_joined.2.2.1 170 = .ok (.lreturn, 1) := by decide +kernel
theorem d_X12_joined_155 : decode mX12_joined.2.2.1 155 = .ok (.lload_n 1, 1) := by decide +kernel
theorem d_X12_joined_156 : decode mX12_joined.2.2.1 156 = .ok (.lload_n 3, 1) := by decide +kernel
theorem d_X12_joined_157 : decode mX12_joined.2.2.1 157 = .ok (.lcmp, 1) := by decide +kernel
theorem d_X12_joined_158 : decode mX12_joined.2.2.1 158 = .ok (.ifCond .ne 7, 3) := by decide +kernel
theorem d_X12_joined_165 : decode mX12_joined.2.2.1 165 = .ok (.lconst 0, 1) := by decide +kernel
theorem d_X12_joined_166 : decode mX12_joined.2.2.1 166 = .ok (.lreturn, 1) := by decide +kernel
theorem d_X12_joined_161 : decode mX12_joined.2.2.1 161 = .ok (.lconst 1, 1) := by decide +kernel
theorem d_X12_joined_162 : decode mX12_joined.2.2.1 162 = .ok (.goto 4, 3) := by decide +kernel
theorem d_X12_joined_143 : decode mX12_joined.2.2.1 143 = .ok (.lload_n 1, 1) := by decide +kernel
theorem d_X12_joined_144 : decode mX12_joined.2.2.1 144 = .ok (.lload_n 3, 1) := by decide +kernel
theorem d_X12_joined_145 : decode mX12_joined.2.2.1 145 = .ok (.lcmp, 1) := by decide +kernel
theorem d_X12_joined_146 : decode mX12_joined.2.2.1 146 = .ok (.ifCond .le 7, 3) := by decide +kernel
theorem d_X12_joined_153 : decode mX12_joined.2.2.1 153 = .ok (.lconst 0, 1) := by decide +kernel
theorem d_X12_joined_154 : decode mX12_joined.2.2.1 154 = .ok (.lreturn, 1) := by decide +kernel
theorem d_X12_joined_149 : decode mX12_joined.2.2.1 149 = .ok (.lconst 1, 1) := by decide +kernel
theorem d_X12_joined_150 : decode mX12_joined.2.2.1 150 = .ok (.goto 4, 3) := by decide +kernel
theorem d_X12_joined_131 : decode mX12_joined.2.2.1 131 = .ok (.lload_n 1, 1) := by decide +kernel
theorem d_X12_joined_132 : decode mX12_joined.2.2.1 132 = .ok (.lload_n 3, 1) := by decide +kernel
theorem d_X12_joined_133 : decode mX12_joined.2.2.1 133 = .ok (.lcmp, 1) := by decide +kernel
theorem d_X12_joined_134 : decode mX12_joined.2.2.1 134 = .ok (.ifCond .ge 7, 3) := by decide +kernel
theorem d_X12_joined_141 : decode mX12_joined.2.2.1 141 = .ok (.lconst 0, 1) := by decide +kernel
theorem d_X12_joined_142 : decode mX12_joined.2.2.1 142 = .ok (.lreturn, 1) := by decide +kernel
theorem d_X12_joined_137 : decode mX12_joined.2.2.1 137 = .ok (.lconst 1, 1) := by decide +kernel
theorem d_X12_joined_138 : decode mX12_joined.2.2.1 138 = .ok (.goto 4, 3) := by decide +kernel
theorem d_X12_joined_119 : decode mX12_joined.2.2.1 119 = .ok (.lload_n 1, 1) := by decide +kernel
theorem d_X12_joined_120 : decode mX12_joined.2.2.1 120 = .ok (.lload_n 3, 1) := by decide +kernel
theorem d_X12_joined_121 : decode mX12_joined.2.2.1 121 = .ok (.lcmp, 1) := by decide +kernel
theorem d_X12_joined_122 : decode mX12_joined.2.2.1 122 = .ok (.ifCond .le 7, 3) := by decide +kernel
theorem d_X12_joined_129 : decode mX12_joined.2.2.1 129 = .ok (.lload_n 3, 1) := by decide +kernel
theorem d_X12_joined_130 : decode mX12_joined.2.2.1 130 = .ok (.lreturn, 1) := by decide +kernel
end
/-! 35.07 -/
section
theorem d_X12_joined_125 : decode mX12_joined.2.2.1 125 = .ok (.lload_n 1, 1) := by decide +kernel
theorem d_X12_joined_126 : decode mX12_joined.2.2.1 126 = .ok (.goto 4, 3) := by decide +kernel
theorem d_X12_joined_107 : decode mX12_joined.2.2.1 107 = .ok (.lload_n 1, 1) := by decide +kernel
theorem d_X12_joined_108 : decode mX12_joined.2.2.1 108 = .ok (.lload_n 3, 1) := by decide +kernel
theorem d_X12_joined_109 : decode mX12_joined.2.2.1 109 = .ok (.lcmp, 1) := by decide +kernel
theorem d_X12_joined_110 : decode mX12_joined.2.2.1 110 = .ok (.ifCond .ge 7, 3) := by decide +kernel
theorem d_X12_joined_117 : decode mX12_joined.2.2.1 117 = .ok (.lload_n 3, 1) := by decide +kernel
theorem d_X12_joined_118 : decode mX12_joined.2.2.1 118 = .ok (.lreturn, 1) := by decide +kernel
theorem d_X12_joined_113 : decode mX12_joined.2.2.1 113 = .ok (.lload_n 1, 1) := by decide +kernel
theorem d_X12_joined_114 : decode mX12_joined.2.2.1 114 = .ok (.goto 4, 3) := by decide +kernel
theorem d_X12_joined_87 : decode mX12_joined.2.2.1 87 = .ok (.lload_n 3, 1) := by decide +kernel
theorem d_X12_joined_88 : decode mX12_joined.2.2.1 88 = .ok (.lconst 0, 1) := by decide +kernel
theorem d_X12_joined_89 : decode mX12_joined.2.2.1 89 = .ok (.lcmp, 1) := by decide +kernel
theorem d_X12_joined_90 : decode mX12_joined.2.2.1 90 = .ok (.ifCond .ne 7, 3) := by decide +kernel
theorem d_X12_joined_97 : decode mX12_joined.2.2.1 97 = .ok (.lload_n 1, 1) := by decide +kernel
theorem d_X12_joined_98 : decode mX12_joined.2.2.1 98 = .ok (.lload_n 3, 1) := by decide +kernel
theorem d_X12_joined_99 : decode mX12_joined.2.2.1 99 = .ok (.lload_n 1, 1) := by decide +kernel
theorem d_X12_joined_100 : decode mX12_joined.2.2.1 100 = .ok (.lload_n 3, 1) := by decide +kernel
theorem d_X12_joined_101 : decode mX12_joined.2.2.1 101 = .ok (.invokestatic 602, 3) := by decide +kernel
def mX12_floor : MD := (12, yX12_floor, cX12_floor, 6, some .long)
theorem s_12_602 : e_siteS 12 602 mX12_floor := ⟨tblG_in (inT9 (List.mem_of_getElem? (i := 90) rfl)) rfl, tblG_in (inT9 (List.mem_of_getElem? (i := 91) rfl)) rfl⟩
theorem d_X12_floor_0 : decode mX12_floor.2.2.1 0 = .ok (.lload_n 2, 1) := by decide +kernel
theorem d_X12_floor_1 : decode mX12_floor.2.2.1 1 = .ok (.lconst 0, 1) := by decide +kernel
theorem d_X12_floor_2 : decode mX12_floor.2.2.1 2 = .ok (.lcmp, 1) := by decide +kernel
theorem d_X12_floor_3 : decode mX12_floor.2.2.1 3 = .ok (.ifCond .ne 5, 3) := by decide +kernel
theorem d_X12_floor_8 : decode mX12_floor.2.2.1 8 = .ok (.lload_n 0, 1) := by decide +kernel
theorem d_X12_floor_9 : decode mX12_floor.2.2.1 9 = .ok (.lload_n 2, 1) := by decide +kernel
theorem d_X12_floor_10 : decode mX12_floor.2.2.1 10 = .ok (.ldiv, 1) := by decide +kernel
theorem d_X12_floor_11 : decode mX12_floor.2.2.1 11 = .ok (.lstore 4, 2) := by decide +kernel
theorem d_X12_floor_13 : decode mX12_floor.2.2.1 13 = .ok (.lload_n 0, 1) := by decide +kernel
theorem d_X12_floor_14 : decode mX12_floor.2.2.1 14 = .ok (.lload_n 2, 1) := by decide +kernel
theorem d_X12_floor_15 : decode mX12_floor.2.2.1 15 = .ok (.lrem, 1) := by decide +kernel
theorem d_X12_floor_16 : decode mX12_floor.2.2.1 16 = .ok (.lconst 0, 1) := by decide +kernel
theorem d_X12_floor_17 : decode mX12_floor.2.2.1 17 = .ok (.lcmp, 1) := by decide +kernel
theorem d_X12_floor_18 : decode mX12_floor.2.2.1 18 = .ok (.ifCond .eq 35, 3) := by decide +kernel
theorem d_X12_floor_53 : decode mX12_floor.2.2.1 53 = .ok (.lload 4, 2) := by decide +kernel
theorem d_X12_floor_55 : decode mX12_floor.2.2.1 55 = .ok (.lreturn, 1) := by decide +kernel
theorem d_X12_floor_21 : decode mX12_floor.2.2.1 21 = .ok (.lload_n 0, 1) := by decide +kernel
theorem d_X12_floor_22 : decode mX12_floor.2.2.1 22 = .ok (.lconst 0, 1) := by decide +kernel
theorem d_X12_floor_23 : decode mX12_floor.2.2.1 23 = .ok (.lcmp, 1) := by decide +kernel
theorem d_X12_floor_24 : decode mX12_floor.2.2.1 24 = .ok (.ifCond .ge 7, 3) := by decide +kernel
theorem d_X12_floor_31 : decode mX12_floor.2.2.1 31 = .ok (.iconst 0, 1) := by decide +kernel
theorem d_X12_floor_27 : decode mX12_floor.2.2.1 27 = .ok (.iconst 1, 1) := by decide +kernel
theorem d_X12_floor_28 : decode mX12_floor.2.2.1 28 = .ok (.goto 4, 3) := by decide +kernel
theorem d_X12_floor_6 : decode mX12_floor.2.2.1 6 = .ok (.lconst 0, 1) := by decide +kernel
theorem d_X12_floor_7 : decode mX12_floor.2.2.1 7 = .ok (.lreturn, 1) := by decide +kernel
theorem d_X12_floor_32 : decode mX12_floor.2.2.1 32 = .ok (.lload_n 2, 1) := by decide +kernel
theorem d_X12_floor_33 : decode mX12_floor.2.2.1 33 = .ok (.lconst 0, 1) := by decide +kernel
theorem d_X12_floor_34 : decode mX12_floor.2.2.1 34 = .ok (.lcmp, 1) := by decide +kernel
theorem d_X12_floor_35 : decode mX12_floor.2.2.1 35 = .ok (.ifCond .ge 7, 3) := by decide +kernel
theorem d_X12_floor_42 : decode mX12_floor.2.2.1 42 = .ok (.iconst 0, 1) := by decide +kernel
theorem d_X12_floor_38 : decode mX12_floor.2.2.1 38 = .ok (.iconst 1, 1) := by decide +kernel
theorem d_X12_floor_39 : decode mX12_floor.2.2.1 39 = .ok (.goto 4, 3) := by decide +kernel
theorem d_X12_floor_43 : decode mX12_floor.2.2.1 43 = .ok (.if_icmp .eq 10, 3) := by decide +kernel
theorem d_X12_floor_46 : decode mX12_floor.2.2.1 46 = .ok (.lload 4, 2) := by decide +kernel
theorem d_X12_floor_48 : decode mX12_floor.2.2.1 48 = .ok (.lconst 1, 1) := by decide +kernel
theorem d_X12_floor_49 : decode mX12_floor.2.2.1 49 = .ok (.lsub, 1) := by decide +kernel
theorem d_X12_floor_50 : decode mX12_floor.2.2.1 50 = .ok (.goto 5, 3) := by decide +kernel
theorem ok_X12_floor : e_m mX12_floor 2 := ⟨tblG_in (inT9 (List.mem_of_getElem? (i := 92) rfl)) rfl, plainFor_of_name (by decide), rfl, ini_12, by decide +kernel, by decide⟩
theorem d_X12_joined_104 : decode mX12_joined.2.2.1 104 = .ok (.lmul, 1) := by decide +kernel
theorem d_X12_joined_105 : decode mX12_joined.2.2.1 105 = .ok (.lsub, 1) := by decide +kernel
theorem d_X12_joined_106 : decode mX12_joined.2.2.1 106 = .ok (.lreturn, 1) := by decide +kernel
theorem d_X12_joined_93 : decode mX12_joined.2.2.1 93 = .ok (.lconst 0, 1) := by decide +kernel
theorem d_X12_joined_94 : decode mX12_joined.2.2.1 94 = .ok (.goto 12, 3) := by decide +kernel
theorem d_X12_joined_81 : decode mX12_joined.2.2.1 81 = .ok (.lload_n 1, 1) := by decide +kernel
theorem d_X12_joined_82 : decode mX12_joined.2.2.1 82 = .ok (.lload_n 3, 1) := by decide +kernel
theorem d_X12_joined_83 : decode mX12_joined.2.2.1 83 = .ok (.invokestatic 602, 3) := by decide +kernel
theorem d_X12_joined_86 : decode mX12_joined.2.2.1 86 = .ok (.lreturn, 1) := by decide +kernel
theorem d_X12_joined_74 : decode mX12_joined.2.2.1 74 = .ok (.lload_n 1, 1) := by decide +kernel
theorem d_X12_joined_75 : decode mX12_joined.2.2.1 75 = .ok (.lload_n 3, 1) := by decide +kernel
theorem d_X12_joined_76 : decode mX12_joined.2.2.1 76 = .ok (.lmul, 1) := by decide +kernel
theorem d_X12_joined_77 : decode mX12_joined.2.2.1 77 = .ok (.invokestatic 598, 3) := by decide +kernel
def mX12_held : MD := (12, yX12_held, cX12_held, 2, some .long)
theorem s_12_598 : e_siteS 12 598 mX12_held := ⟨tblG_in (inT9 (List.mem_of_getElem? (i := 85) rfl)) rfl, tblG_in (inT9 (List.mem_of_getElem? (i := 86) rfl)) rfl⟩
theorem d_X12_held_0 : decode mX12_held.2.2.1 0 = .ok (.lload_n 0, 1) := by decide +kernel
theorem d_X12_held_1 : decode mX12_held.2.2.1 1 = .ok (.ldc2_w 594, 3) := by decide +kernel
theorem kl_12_594 : Jvm.Cond.constantLong (e_cn 12) 594 (Int64.ofInt 1000000) ∈ tblG := tblG_in (inT9 (List.mem_of_getElem? (i := 88) rfl)) rfl
theorem d_X12_held_4 : decode mX12_held.2.2.1 4 = .ok (.lcmp, 1) := by decide +kernel
theorem d_X12_held_5 : decode mX12_held.2.2.1 5 = .ok (.ifCond .le 9, 3) := by decide +kernel
theorem d_X12_held_14 : decode mX12_held.2.2.1 14 = .ok (.lload_n 0, 1) := by decide +kernel
theorem d_X12_held_15 : decode mX12_held.2.2.1 15 = .ok (.ldc2_w 596, 3) := by decide +kernel
theorem kl_12_596 : Jvm.Cond.constantLong (e_cn 12) 596 (Int64.ofInt (-1000000)) ∈ tblG := tblG_in (inT9 (List.mem_of_getElem? (i := 89) rfl)) rfl
theorem d_X12_held_18 : decode mX12_held.2.2.1 18 = .ok (.lcmp, 1) := by decide +kernel
theorem d_X12_held_19 : decode mX12_held.2.2.1 19 = .ok (.ifCond .ge 9, 3) := by decide +kernel
theorem d_X12_held_28 : decode mX12_held.2.2.1 28 = .ok (.lload_n 0, 1) := by decide +kernel
theorem d_X12_held_29 : decode mX12_held.2.2.1 29 = .ok (.lreturn, 1) := by decide +kernel
theorem d_X12_held_22 : decode mX12_held.2.2.1 22 = .ok (.ldc2_w 596, 3) := by decide +kernel
theorem d_X12_held_25 : decode mX12_held.2.2.1 25 = .ok (.goto 4, 3) := by decide +kernel
theorem d_X12_held_8 : decode mX12_held.2.2.1 8 = .ok (.ldc2_w 594, 3) := by decide +kernel
theorem d_X12_held_11 : decode mX12_held.2.2.1 11 = .ok (.goto 18, 3) := by decide +kernel
theorem ok_X12_held : e_m mX12_held 1 := ⟨tblG_in (inT9 (List.mem_of_getElem? (i := 87) rfl)) rfl, plainFor_of_name (by decide), rfl, ini_12, by decide +kernel, by decide⟩
theorem d_X12_joined_80 : decode mX12_joined.2.2.1 80 = .ok (.lreturn, 1) := by decide +kernel
theorem d_X12_joined_67 : decode mX12_joined.2.2.1 67 = .ok (.lload_n 1, 1) := by decide +kernel
theorem d_X12_joined_68 : decode mX12_joined.2.2.1 68 = .ok (.lload_n 3, 1) := by decide +kernel
theorem d_X12_joined_69 : decode mX12_joined.2.2.1 69 = .ok (.lsub, 1) := by decide +kernel
theorem d_X12_joined_70 : decode mX12_joined.2.2.1 70 = .ok (.invokestatic 598, 3) := by decide +kernel
theorem d_X12_joined_73 : decode mX12_joined.2.2.1 73 = .ok (.lreturn, 1) := by decide +kernel
theorem d_X12_joined_60 : decode mX12_joined.2.2.1 60 = .ok (.lload_n 1, 1) := by decide +kernel
theorem d_X12_joined_61 : decode mX12_joined.2.2.1 61 = .ok (.lload_n 3, 1) := by decide +kernel
theorem d_X12_joined_62 : decode mX12_joined.2.2.1 62 = .ok (.ladd, 1) := by decide +kernel
theorem d_X12_joined_63 : decode mX12_joined.2.2.1 63 = .ok (.invokestatic 598, 3) := by decide +kernel
theorem d_X12_joined_66 : decode mX12_joined.2.2.1 66 = .ok (.lreturn, 1) := by decide +kernel
theorem ok_X12_joined : e_m mX12_joined 3 := ⟨tblG_in (inT9 (List.mem_of_getElem? (i := 84) rfl)) rfl, plainFor_of_name (by decide), rfl, ini_12, by decide +kernel, by decide⟩
theorem d_X12_works_132 : decode mX12_works.2.2.1 132 = .ok (.lastore, 1) := by decide +kernel
theorem d_X12_works_82 : decode mX12_works.2.2.1 82 = .ok (.aload_n 0, 1) := by decide +kernel
theorem d_X12_works_83 : decode mX12_works.2.2.1 83 = .ok (.getfield 264, 3) := by decide +kernel
theorem d_X12_works_86 : decode mX12_works.2.2.1 86 = .ok (.iload_n 2, 1) := by decide +kernel
theorem d_X12_works_87 : decode mX12_works.2.2.1 87 = .ok (.iconst 1, 1) := by decide +kernel
theorem d_X12_works_88 : decode mX12_works.2.2.1 88 = .ok (.isub, 1) := by decide +kernel
theorem d_X12_works_89 : decode mX12_works.2.2.1 89 = .ok (.lconst 1, 1) := by decide +kernel
theorem d_X12_works_90 : decode mX12_works.2.2.1 90 = .ok (.aload_n 0, 1) := by decide +kernel
theorem d_X12_works_91 : decode mX12_works.2.2.1 91 = .ok (.getfield 264, 3) := by decide +kernel
theorem d_X12_works_94 : decode mX12_works.2.2.1 94 = .ok (.iload_n 2, 1) := by decide +kernel
theorem d_X12_works_95 : decode mX12_works.2.2.1 95 = .ok (.iconst 1, 1) := by decide +kernel
theorem d_X12_works_96 : decode mX12_works.2.2.1 96 = .ok (.isub, 1) := by decide +kernel
theorem d_X12_works_97 : decode mX12_works.2.2.1 97 = .ok (.laload, 1) := by decide +kernel
theorem d_X12_works_98 : decode mX12_works.2.2.1 98 = .ok (.lsub, 1) := by decide +kernel
theorem d_X12_works_99 : decode mX12_works.2.2.1 99 = .ok (.lastore, 1) := by decide +kernel
theorem d_X12_works_100 : decode mX12_works.2.2.1 100 = .ok (.goto 33, 3) := by decide +kernel
theorem d_X12_works_51 : decode mX12_works.2.2.1 51 = .ok (.aload_n 0, 1) := by decide +kernel
theorem d_X12_works_52 : decode mX12_works.2.2.1 52 = .ok (.getfield 264, 3) := by decide +kernel
theorem d_X12_works_55 : decode mX12_works.2.2.1 55 = .ok (.iload_n 2, 1) := by decide +kernel
theorem d_X12_works_56 : decode mX12_works.2.2.1 56 = .ok (.aload_n 0, 1) := by decide +kernel
theorem d_X12_works_57 : decode mX12_works.2.2.1 57 = .ok (.iload 4, 2) := by decide +kernel
theorem d_X12_works_59 : decode mX12_works.2.2.1 59 = .ok (.aload_n 0, 1) := by decide +kernel
theorem d_X12_works_60 : decode mX12_works.2.2.1 60 = .ok (.getfield 118, 3) := by decide +kernel
theorem d_X12_works_63 : decode mX12_works.2.2.1 63 = .ok (.iload_n 3, 1) := by decide +kernel
theorem d_X12_works_64 : decode mX12_works.2.2.1 64 = .ok (.iaload, 1) := by decide +kernel
theorem d_X12_works_65 : decode mX12_works.2.2.1 65 = .ok (.invokevirtual 606, 3) := by decide +kernel
def mX12_leaf : MD := (12, yX12_leaf, cX12_leaf, 3, some .long)
theorem sel_X12_leaf : Cond.instanceMethod mX12_leaf.2.1 ∈ tblG ∧ Cond.selects mX12_leaf.2.1.cls mX12_leaf.2.1 mX12_leaf.2.1 ∈ tblG := ⟨tblG_in (inT9 (List.mem_of_getElem? (i := 80) rfl)) rfl, tblG_in (inP8 (q := (mX12_leaf.2.1, 121)) (List.mem_of_getElem? (i := 1) rfl)) rfl⟩
theorem s_12_606 : e_siteV 12 606 mX12_leaf 12 := ⟨tblG_in (inT9 (List.mem_of_getElem? (i := 78) rfl)) rfl, sel_X12_leaf.1, sel_X12_leaf.2, rfl⟩
theorem d_X12_leaf_0 : decode mX12_leaf.2.2.1 0 = .ok (.iload_n 1, 1) := by decide +kernel
theorem d_X12_leaf_1 : decode mX12_leaf.2.2.1 1 = .ok (.tableswitch 75 0 4 #[35, 38, 46, 54, 60], 35) := by decide +kernel
theorem d_X12_leaf_76 : decode mX12_leaf.2.2.1 76 = .ok (.lconst 1, 1) := by decide +kernel
theorem d_X12_leaf_77 : decode mX12_leaf.2.2.1 77 = .ok (.lreturn, 1) := by decide +kernel
theorem d_X12_leaf_61 : decode mX12_leaf.2.2.1 61 = .ok (.aload_n 0, 1) := by decide +kernel
theorem d_X12_leaf_62 : decode mX12_leaf.2.2.1 62 = .ok (.getfield 177, 3) := by decide +kernel
theorem d_X12_leaf_65 : decode mX12_leaf.2.2.1 65 = .ok (.iload_n 2, 1) := by decide +kernel
theorem d_X12_leaf_66 : decode mX12_leaf.2.2.1 66 = .ok (.baload, 1) := by decide +kernel
theorem d_X12_leaf_67 : decode mX12_leaf.2.2.1 67 = .ok (.ifCond .eq 7, 3) := by decide +kernel
theorem d_X12_leaf_74 : decode mX12_leaf.2.2.1 74 = .ok (.lconst 0, 1) := by decide +kernel
theorem d_X12_leaf_75 : decode mX12_leaf.2.2.1 75 = .ok (.lreturn, 1) := by decide +kernel
theorem d_X12_leaf_70 : decode mX12_leaf.2.2.1 70 = .ok (.lconst 1, 1) := by decide +kernel
theorem d_X12_leaf_71 : decode mX12_leaf.2.2.1 71 = .ok (.goto 4, 3) := by decide +kernel
theorem d_X12_leaf_55 : decode mX12_leaf.2.2.1 55 = .ok (.aload_n 0, 1) := by decide +kernel
theorem d_X12_leaf_56 : decode mX12_leaf.2.2.1 56 = .ok (.getfield 201, 3) := by decide +kernel
theorem d_X12_leaf_59 : decode mX12_leaf.2.2.1 59 = .ok (.i2l, 1) := by decide +kernel
theorem d_X12_leaf_60 : decode mX12_leaf.2.2.1 60 = .ok (.lreturn, 1) := by decide +kernel
theorem d_X12_leaf_47 : decode mX12_leaf.2.2.1 47 = .ok (.aload_n 0, 1) := by decide +kernel
theorem d_X12_leaf_48 : decode mX12_leaf.2.2.1 48 = .ok (.getfield 174, 3) := by decide +kernel
theorem d_X12_leaf_51 : decode mX12_leaf.2.2.1 51 = .ok (.iload_n 2, 1) := by decide +kernel
theorem d_X12_leaf_52 : decode mX12_leaf.2.2.1 52 = .ok (.iaload, 1) := by decide +kernel
theorem d_X12_leaf_53 : decode mX12_leaf.2.2.1 53 = .ok (.i2l, 1) := by decide +kernel
theorem d_X12_leaf_54 : decode mX12_leaf.2.2.1 54 = .ok (.lreturn, 1) := by decide +kernel
theorem d_X12_leaf_39 : decode mX12_leaf.2.2.1 39 = .ok (.aload_n 0, 1) := by decide +kernel
theorem d_X12_leaf_40 : decode mX12_leaf.2.2.1 40 = .ok (.getfield 171, 3) := by decide +kernel
theorem d_X12_leaf_43 : decode mX12_leaf.2.2.1 43 = .ok (.iload_n 2, 1) := by decide +kernel
theorem d_X12_leaf_44 : decode mX12_leaf.2.2.1 44 = .ok (.iaload, 1) := by decide +kernel
theorem d_X12_leaf_45 : decode mX12_leaf.2.2.1 45 = .ok (.i2l, 1) := by decide +kernel
theorem d_X12_leaf_46 : decode mX12_leaf.2.2.1 46 = .ok (.lreturn, 1) := by decide +kernel
theorem d_X12_leaf_36 : decode mX12_leaf.2.2.1 36 = .ok (.iload_n 2, 1) := by decide +kernel
theorem d_X12_leaf_37 : decode mX12_leaf.2.2.1 37 = .ok (.i2l, 1) := by decide +kernel
theorem d_X12_leaf_38 : decode mX12_leaf.2.2.1 38 = .ok (.lreturn, 1) := by decide +kernel
theorem ok_X12_leaf : e_m mX12_leaf 2 := ⟨tblG_in (inT9 (List.mem_of_getElem? (i := 81) rfl)) rfl, plainFor_of_name (by decide), rfl, ini_12, by decide +kernel, by decide⟩
theorem d_X12_works_68 : decode mX12_works.2.2.1 68 = .ok (.lastore, 1) := by decide +kernel
theorem d_X12_works_69 : decode mX12_works.2.2.1 69 = .ok (.iinc 2 1, 3) := by decide +kernel
theorem d_X12_works_72 : decode mX12_works.2.2.1 72 = .ok (.goto 61, 3) := by decide +kernel
theorem d_X12_works_133 : decode mX12_works.2.2.1 133 = .ok (.iinc 3 1, 3) := by decide +kernel
theorem d_X12_works_136 : decode mX12_works.2.2.1 136 = .ok (.goto (-118), 3) := by decide +kernel
theorem ok_X12_works : e_m mX12_works 1 := ⟨tblG_in (inT9 (List.mem_of_getElem? (i := 77) rfl)) rfl, plainFor_of_name (by decide), rfl, ini_12, by decide +kernel, by decide⟩
theorem d_X12_runs_269 : decode mX12_runs.2.2.1 269 = .ok (.lconst 0, 1) := by decide +kernel
theorem d_X12_runs_270 : decode mX12_runs.2.2.1 270 = .ok (.lcmp, 1) := by decide +kernel
theorem d_X12_runs_271 : decode mX12_runs.2.2.1 271 = .ok (.ifCond .ne 27, 3) := by decide +kernel
theorem d_X12_runs_274 : decode mX12_runs.2.2.1 274 = .ok (.aload_n 0, 1) := by decide +kernel
theorem d_X12_runs_275 : decode mX12_runs.2.2.1 275 = .ok (.getfield 112, 3) := by decide +kernel
theorem d_X12_runs_278 : decode mX12_runs.2.2.1 278 = .ok (.iload 4, 2) := by decide +kernel
theorem d_X12_runs_280 : decode mX12_runs.2.2.1 280 = .ok (.iaload, 1) := by decide +kernel
theorem d_X12_runs_281 : decode mX12_runs.2.2.1 281 = .ok (.istore_n 3, 1) := by decide +kernel
theorem d_X12_runs_282 : decode mX12_runs.2.2.1 282 = .ok (.goto 16, 3) := by decide +kernel
theorem d_X12_runs_285 : decode mX12_runs.2.2.1 285 = .ok (.iload 5, 2) := by decide +kernel
theorem d_X12_runs_287 : decode mX12_runs.2.2.1 287 = .ok (.ifCond .eq 11, 3) := by decide +kernel
theorem d_X12_runs_290 : decode mX12_runs.2.2.1 290 = .ok (.aload_n 0, 1) := by decide +kernel
theorem d_X12_runs_291 : decode mX12_runs.2.2.1 291 = .ok (.iload 4, 2) := by decide +kernel
theorem d_X12_runs_293 : decode mX12_runs.2.2.1 293 = .ok (.invokevirtual 635, 3) := by decide +kernel
def mX12_does : MD := (12, yX12_does, cX12_does, 6, some .boolean)
theorem sel_X12_does : Cond.instanceMethod mX12_does.2.1 ∈ tblG ∧ Cond.selects mX12_does.2.1.cls mX12_does.2.1 mX12_does.2.1 ∈ tblG := ⟨tblG_in (inT9 (List.mem_of_getElem? (i := 95) rfl)) rfl, tblG_in (inP8 (q := (mX12_does.2.1, 121)) (List.mem_of_getElem? (i := 2) rfl)) rfl⟩
theorem s_12_635 : e_siteV 12 635 mX12_does 12 := ⟨tblG_in (inT9 (List.mem_of_getElem? (i := 93) rfl)) rfl, sel_X12_does.1, sel_X12_does.2, rfl⟩
theorem d_X12_does_0 : decode mX12_does.2.2.1 0 = .ok (.aload_n 0, 1) := by decide +kernel
theorem d_X12_does_1 : decode mX12_does.2.2.1 1 = .ok (.getfield 100, 3) := by decide +kernel
theorem d_X12_does_4 : decode mX12_does.2.2.1 4 = .ok (.iload_n 1, 1) := by decide +kernel
theorem d_X12_does_5 : decode mX12_does.2.2.1 5 = .ok (.iaload, 1) := by decide +kernel
theorem d_X12_does_6 : decode mX12_does.2.2.1 6 = .ok (.istore_n 2, 1) := by decide +kernel
theorem d_X12_does_7 : decode mX12_does.2.2.1 7 = .ok (.aload_n 0, 1) := by decide +kernel
theorem d_X12_does_8 : decode mX12_does.2.2.1 8 = .ok (.getfield 103, 3) := by decide +kernel
theorem d_X12_does_11 : decode mX12_does.2.2.1 11 = .ok (.iload_n 1, 1) := by decide +kernel
theorem d_X12_does_12 : decode mX12_does.2.2.1 12 = .ok (.iaload, 1) := by decide +kernel
theorem d_X12_does_13 : decode mX12_does.2.2.1 13 = .ok (.istore_n 3, 1) := by decide +kernel
theorem d_X12_does_14 : decode mX12_does.2.2.1 14 = .ok (.aload_n 0, 1) := by decide +kernel
theorem d_X12_does_15 : decode mX12_does.2.2.1 15 = .ok (.getfield 97, 3) := by decide +kernel
theorem d_X12_does_18 : decode mX12_does.2.2.1 18 = .ok (.iload_n 1, 1) := by decide +kernel
theorem d_X12_does_19 : decode mX12_does.2.2.1 19 = .ok (.iaload, 1) := by decide +kernel
theorem d_X12_does_20 : decode mX12_does.2.2.1 20 = .ok (.tableswitch 102 1 5 #[36, 50, 67, 74, 82], 36) := by decide +kernel
theorem d_X12_does_122 : decode mX12_does.2.2.1 122 = .ok (.aload_n 0, 1) := by decide +kernel
theorem d_X12_does_123 : decode mX12_does.2.2.1 123 = .ok (.iload_n 1, 1) := by decide +kernel
theorem d_X12_does_124 : decode mX12_does.2.2.1 124 = .ok (.invokevirtual 614, 3) := by decide +kernel
theorem d_X12_does_127 : decode mX12_does.2.2.1 127 = .ok (.lstore 4, 2) := by decide +kernel
theorem d_X12_does_129 : decode mX12_does.2.2.1 129 = .ok (.aload_n 0, 1) := by decide +kernel
theorem d_X12_does_130 : decode mX12_does.2.2.1 130 = .ok (.lload 4, 2) := by decide +kernel
theorem d_X12_does_132 : decode mX12_does.2.2.1 132 = .ok (.ldc2_w 631, 3) := by decide +kernel
theorem kl_12_631 : Jvm.Cond.constantLong (e_cn 12) 631 (Int64.ofInt 1000) ∈ tblG := tblG_in (inT9 (List.mem_of_getElem? (i := 128) rfl)) rfl
theorem d_X12_does_135 : decode mX12_does.2.2.1 135 = .ok (.lload 4, 2) := by decide +kernel
theorem d_X12_does_137 : decode mX12_does.2.2.1 137 = .ok (.ldc2_w 631, 3) := by decide +kernel
theorem d_X12_does_140 : decode mX12_does.2.2.1 140 = .ok (.invokestatic 602, 3) := by decide +kernel
theorem d_X12_does_143 : decode mX12_does.2.2.1 143 = .ok (.lmul, 1) := by decide +kernel
theorem d_X12_does_144 : decode mX12_does.2.2.1 144 = .ok (.lsub, 1) := by decide +kernel
theorem d_X12_does_145 : decode mX12_does.2.2.1 145 = .ok (.l2i, 1) := by decide +kernel
theorem d_X12_does_146 : decode mX12_does.2.2.1 146 = .ok (.iload_n 2, 1) := by decide +kernel
theorem d_X12_does_147 : decode mX12_does.2.2.1 147 = .ok (.invokevirtual 633, 3) := by decide +kernel
def mX12_touches : MD := (12, yX12_touches, cX12_touches, 5, some .boolean)
theorem sel_X12_touches : Cond.instanceMethod mX12_touches.2.1 ∈ tblG ∧ Cond.selects mX12_touches.2.1.cls mX12_touches.2.1 mX12_touches.2.1 ∈ tblG := ⟨tblG_in (inT9 (List.mem_of_getElem? (i := 131) rfl)) rfl, tblG_in (inP8 (q := (mX12_touches.2.1, 121)) (List.mem_of_getElem? (i := 10) rfl)) rfl⟩
theorem s_12_633 : e_siteV 12 633 mX12_touches 12 := ⟨tblG_in (inT9 (List.mem_of_getElem? (i := 129) rfl)) rfl, sel_X12_touches.1, sel_X12_touches.2, rfl⟩
theorem d_X12_touches_0 : decode mX12_touches.2.2.1 0 = .ok (.aload_n 0, 1) := by decide +kernel
theorem d_X12_touches_1 : decode mX12_touches.2.2.1 1 = .ok (.dup, 1) := by decide +kernel
theorem d_X12_touches_2 : decode mX12_touches.2.2.1 2 = .ok (.getfield 213, 3) := by decide +kernel
theorem d_X12_touches_5 : decode mX12_touches.2.2.1 5 = .ok (.iconst 1, 1) := by decide +kernel
theorem d_X12_touches_6 : decode mX12_touches.2.2.1 6 = .ok (.iadd, 1) := by decide +kernel
theorem d_X12_touches_7 : decode mX12_touches.2.2.1 7 = .ok (.putfield 213, 3) := by decide +kernel
theorem d_X12_touches_10 : decode mX12_touches.2.2.1 10 = .ok (.iload_n 1, 1) := by decide +kernel
theorem d_X12_touches_11 : decode mX12_touches.2.2.1 11 = .ok (.aload_n 0, 1) := by decide +kernel
end
/-! 35.08 -/
section
theorem d_X12_touches_12 : decode mX12_touches.2.2.1 12 = .ok (.getfield 57, 3) := by decide +kernel
theorem d_X12_touches_15 : decode mX12_touches.2.2.1 15 = .ok (.aload_n 0, 1) := by decide +kernel
theorem d_X12_touches_16 : decode mX12_touches.2.2.1 16 = .ok (.getfield 48, 3) := by decide +kernel
theorem d_X12_touches_19 : decode mX12_touches.2.2.1 19 = .ok (.iaload, 1) := by decide +kernel
theorem d_X12_touches_20 : decode mX12_touches.2.2.1 20 = .ok (.idiv, 1) := by decide +kernel
theorem d_X12_touches_21 : decode mX12_touches.2.2.1 21 = .ok (.istore_n 3, 1) := by decide +kernel
theorem d_X12_touches_22 : decode mX12_touches.2.2.1 22 = .ok (.iload_n 3, 1) := by decide +kernel
theorem d_X12_touches_23 : decode mX12_touches.2.2.1 23 = .ok (.aload_n 0, 1) := by decide +kernel
theorem d_X12_touches_24 : decode mX12_touches.2.2.1 24 = .ok (.getfield 54, 3) := by decide +kernel
theorem d_X12_touches_27 : decode mX12_touches.2.2.1 27 = .ok (.aload_n 0, 1) := by decide +kernel
theorem d_X12_touches_28 : decode mX12_touches.2.2.1 28 = .ok (.getfield 48, 3) := by decide +kernel
theorem d_X12_touches_31 : decode mX12_touches.2.2.1 31 = .ok (.iaload, 1) := by decide +kernel
theorem d_X12_touches_32 : decode mX12_touches.2.2.1 32 = .ok (.irem, 1) := by decide +kernel
theorem d_X12_touches_33 : decode mX12_touches.2.2.1 33 = .ok (.istore 4, 2) := by decide +kernel
theorem d_X12_touches_35 : decode mX12_touches.2.2.1 35 = .ok (.aload_n 0, 1) := by decide +kernel
theorem d_X12_touches_36 : decode mX12_touches.2.2.1 36 = .ok (.getfield 189, 3) := by decide +kernel
theorem d_X12_touches_39 : decode mX12_touches.2.2.1 39 = .ok (.iload 4, 2) := by decide +kernel
theorem d_X12_touches_41 : decode mX12_touches.2.2.1 41 = .ok (.iaload, 1) := by decide +kernel
theorem d_X12_touches_42 : decode mX12_touches.2.2.1 42 = .ok (.iload_n 3, 1) := by decide +kernel
theorem d_X12_touches_43 : decode mX12_touches.2.2.1 43 = .ok (.if_icmp .ne 5, 3) := by decide +kernel
theorem d_X12_touches_48 : decode mX12_touches.2.2.1 48 = .ok (.aload_n 0, 1) := by decide +kernel
theorem d_X12_touches_49 : decode mX12_touches.2.2.1 49 = .ok (.dup, 1) := by decide +kernel
theorem d_X12_touches_50 : decode mX12_touches.2.2.1 50 = .ok (.getfield 210, 3) := by decide +kernel
theorem d_X12_touches_53 : decode mX12_touches.2.2.1 53 = .ok (.iconst 1, 1) := by decide +kernel
theorem d_X12_touches_54 : decode mX12_touches.2.2.1 54 = .ok (.iadd, 1) := by decide +kernel
theorem d_X12_touches_55 : decode mX12_touches.2.2.1 55 = .ok (.putfield 210, 3) := by decide +kernel
theorem d_X12_touches_58 : decode mX12_touches.2.2.1 58 = .ok (.aload_n 0, 1) := by decide +kernel
theorem d_X12_touches_59 : decode mX12_touches.2.2.1 59 = .ok (.getfield 189, 3) := by decide +kernel
theorem d_X12_touches_62 : decode mX12_touches.2.2.1 62 = .ok (.iload 4, 2) := by decide +kernel
theorem d_X12_touches_64 : decode mX12_touches.2.2.1 64 = .ok (.iload_n 3, 1) := by decide +kernel
theorem d_X12_touches_65 : decode mX12_touches.2.2.1 65 = .ok (.iastore, 1) := by decide +kernel
theorem d_X12_touches_66 : decode mX12_touches.2.2.1 66 = .ok (.aload_n 0, 1) := by decide +kernel
theorem d_X12_touches_67 : decode mX12_touches.2.2.1 67 = .ok (.iconst (-1), 1) := by decide +kernel
theorem d_X12_touches_68 : decode mX12_touches.2.2.1 68 = .ok (.iconst 0, 1) := by decide +kernel
theorem d_X12_touches_69 : decode mX12_touches.2.2.1 69 = .ok (.aload_n 0, 1) := by decide +kernel
theorem d_X12_touches_70 : decode mX12_touches.2.2.1 70 = .ok (.getfield 60, 3) := by decide +kernel
theorem d_X12_touches_73 : decode mX12_touches.2.2.1 73 = .ok (.aload_n 0, 1) := by decide +kernel
theorem d_X12_touches_74 : decode mX12_touches.2.2.1 74 = .ok (.getfield 48, 3) := by decide +kernel
theorem d_X12_touches_77 : decode mX12_touches.2.2.1 77 = .ok (.iaload, 1) := by decide +kernel
theorem d_X12_touches_78 : decode mX12_touches.2.2.1 78 = .ok (.iload_n 2, 1) := by decide +kernel
theorem d_X12_touches_79 : decode mX12_touches.2.2.1 79 = .ok (.iconst 0, 1) := by decide +kernel
theorem d_X12_touches_80 : decode mX12_touches.2.2.1 80 = .ok (.iconst 0, 1) := by decide +kernel
theorem d_X12_touches_81 : decode mX12_touches.2.2.1 81 = .ok (.invokevirtual 587, 3) := by decide +kernel
def mX12_ticksOf : MD := (12, yX12_ticksOf, cX12_ticksOf, 9, some .boolean)
theorem sel_X12_ticksOf : Cond.instanceMethod mX12_ticksOf.2.1 ∈ tblG ∧ Cond.selects mX12_ticksOf.2.1.cls mX12_ticksOf.2.1 mX12_ticksOf.2.1 ∈ tblG := ⟨tblG_in (inT9 (List.mem_of_getElem? (i := 110) rfl)) rfl, tblG_in (inP8 (q := (mX12_ticksOf.2.1, 121)) (List.mem_of_getElem? (i := 5) rfl)) rfl⟩
theorem s_12_587 : e_siteV 12 587 mX12_ticksOf 12 := ⟨tblG_in (inT9 (List.mem_of_getElem? (i := 108) rfl)) rfl, sel_X12_ticksOf.1, sel_X12_ticksOf.2, rfl⟩
theorem d_X12_ticksOf_0 : decode mX12_ticksOf.2.2.1 0 = .ok (.aload_n 0, 1) := by decide +kernel
theorem d_X12_ticksOf_1 : decode mX12_ticksOf.2.2.1 1 = .ok (.iload_n 1, 1) := by decide +kernel
theorem d_X12_ticksOf_2 : decode mX12_ticksOf.2.2.1 2 = .ok (.putfield 192, 3) := by decide +kernel
theorem d_X12_ticksOf_5 : decode mX12_ticksOf.2.2.1 5 = .ok (.aload_n 0, 1) := by decide +kernel
theorem d_X12_ticksOf_6 : decode mX12_ticksOf.2.2.1 6 = .ok (.iload_n 2, 1) := by decide +kernel
theorem d_X12_ticksOf_7 : decode mX12_ticksOf.2.2.1 7 = .ok (.putfield 198, 3) := by decide +kernel
theorem d_X12_ticksOf_10 : decode mX12_ticksOf.2.2.1 10 = .ok (.iconst 1, 1) := by decide +kernel
theorem d_X12_ticksOf_11 : decode mX12_ticksOf.2.2.1 11 = .ok (.istore 7, 2) := by decide +kernel
theorem d_X12_ticksOf_13 : decode mX12_ticksOf.2.2.1 13 = .ok (.iconst 0, 1) := by decide +kernel
theorem d_X12_ticksOf_14 : decode mX12_ticksOf.2.2.1 14 = .ok (.istore 8, 2) := by decide +kernel
theorem d_X12_ticksOf_16 : decode mX12_ticksOf.2.2.1 16 = .ok (.iload 8, 2) := by decide +kernel
theorem d_X12_ticksOf_18 : decode mX12_ticksOf.2.2.1 18 = .ok (.iload_n 3, 1) := by decide +kernel
theorem d_X12_ticksOf_19 : decode mX12_ticksOf.2.2.1 19 = .ok (.if_icmp .ge 46, 3) := by decide +kernel
theorem d_X12_ticksOf_65 : decode mX12_ticksOf.2.2.1 65 = .ok (.aload_n 0, 1) := by decide +kernel
theorem d_X12_ticksOf_66 : decode mX12_ticksOf.2.2.1 66 = .ok (.iconst (-1), 1) := by decide +kernel
theorem d_X12_ticksOf_67 : decode mX12_ticksOf.2.2.1 67 = .ok (.putfield 192, 3) := by decide +kernel
theorem d_X12_ticksOf_70 : decode mX12_ticksOf.2.2.1 70 = .ok (.iload 7, 2) := by decide +kernel
theorem d_X12_ticksOf_72 : decode mX12_ticksOf.2.2.1 72 = .ok (.ireturn, 1) := by decide +kernel
theorem d_X12_ticksOf_22 : decode mX12_ticksOf.2.2.1 22 = .ok (.iload 7, 2) := by decide +kernel
theorem d_X12_ticksOf_24 : decode mX12_ticksOf.2.2.1 24 = .ok (.ifCond .eq 41, 3) := by decide +kernel
theorem d_X12_ticksOf_27 : decode mX12_ticksOf.2.2.1 27 = .ok (.aload_n 0, 1) := by decide +kernel
theorem d_X12_ticksOf_28 : decode mX12_ticksOf.2.2.1 28 = .ok (.iload 4, 2) := by decide +kernel
theorem d_X12_ticksOf_30 : decode mX12_ticksOf.2.2.1 30 = .ok (.invokevirtual 577, 3) := by decide +kernel
theorem d_X12_ticksOf_33 : decode mX12_ticksOf.2.2.1 33 = .ok (.istore 7, 2) := by decide +kernel
theorem d_X12_ticksOf_35 : decode mX12_ticksOf.2.2.1 35 = .ok (.iload 7, 2) := by decide +kernel
theorem d_X12_ticksOf_37 : decode mX12_ticksOf.2.2.1 37 = .ok (.ifCond .eq 22, 3) := by decide +kernel
theorem d_X12_ticksOf_40 : decode mX12_ticksOf.2.2.1 40 = .ok (.iload 5, 2) := by decide +kernel
theorem d_X12_ticksOf_42 : decode mX12_ticksOf.2.2.1 42 = .ok (.ifCond .eq 17, 3) := by decide +kernel
theorem d_X12_ticksOf_45 : decode mX12_ticksOf.2.2.1 45 = .ok (.iload 8, 2) := by decide +kernel
theorem d_X12_ticksOf_47 : decode mX12_ticksOf.2.2.1 47 = .ok (.ifCond .ne 12, 3) := by decide +kernel
theorem d_X12_ticksOf_50 : decode mX12_ticksOf.2.2.1 50 = .ok (.aload_n 0, 1) := by decide +kernel
theorem d_X12_ticksOf_51 : decode mX12_ticksOf.2.2.1 51 = .ok (.iload_n 1, 1) := by decide +kernel
theorem d_X12_ticksOf_52 : decode mX12_ticksOf.2.2.1 52 = .ok (.iload 4, 2) := by decide +kernel
theorem d_X12_ticksOf_54 : decode mX12_ticksOf.2.2.1 54 = .ok (.iload 6, 2) := by decide +kernel
theorem d_X12_ticksOf_56 : decode mX12_ticksOf.2.2.1 56 = .ok (.invokevirtual 580, 3) := by decide +kernel
def mX12_acts : MD := (12, yX12_acts, cX12_acts, 4, none)
theorem sel_X12_acts : Cond.instanceMethod mX12_acts.2.1 ∈ tblG ∧ Cond.selects mX12_acts.2.1.cls mX12_acts.2.1 mX12_acts.2.1 ∈ tblG := ⟨tblG_in (inT9 (List.mem_of_getElem? (i := 114) rfl)) rfl, tblG_in (inP8 (q := (mX12_acts.2.1, 121)) (List.mem_of_getElem? (i := 6) rfl)) rfl⟩
theorem s_12_580 : e_siteV 12 580 mX12_acts 12 := ⟨tblG_in (inT9 (List.mem_of_getElem? (i := 112) rfl)) rfl, sel_X12_acts.1, sel_X12_acts.2, rfl⟩
theorem d_X12_acts_0 : decode mX12_acts.2.2.1 0 = .ok (.aload_n 0, 1) := by decide +kernel
theorem d_X12_acts_1 : decode mX12_acts.2.2.1 1 = .ok (.getfield 186, 3) := by decide +kernel
theorem d_X12_acts_4 : decode mX12_acts.2.2.1 4 = .ok (.iload_n 1, 1) := by decide +kernel
theorem d_X12_acts_5 : decode mX12_acts.2.2.1 5 = .ok (.iload_n 2, 1) := by decide +kernel
theorem d_X12_acts_6 : decode mX12_acts.2.2.1 6 = .ok (.iastore, 1) := by decide +kernel
theorem d_X12_acts_7 : decode mX12_acts.2.2.1 7 = .ok (.aload_n 0, 1) := by decide +kernel
theorem d_X12_acts_8 : decode mX12_acts.2.2.1 8 = .ok (.getfield 225, 3) := by decide +kernel
theorem d_X12_acts_11 : decode mX12_acts.2.2.1 11 = .ok (.ifCond .ne 4, 3) := by decide +kernel
theorem d_X12_acts_15 : decode mX12_acts.2.2.1 15 = .ok (.aload_n 0, 1) := by decide +kernel
theorem d_X12_acts_16 : decode mX12_acts.2.2.1 16 = .ok (.getfield 243, 3) := by decide +kernel
theorem d_X12_acts_19 : decode mX12_acts.2.2.1 19 = .ok (.aload_n 0, 1) := by decide +kernel
theorem d_X12_acts_20 : decode mX12_acts.2.2.1 20 = .ok (.getfield 240, 3) := by decide +kernel
theorem d_X12_acts_23 : decode mX12_acts.2.2.1 23 = .ok (.iload_n 1, 1) := by decide +kernel
theorem d_X12_acts_24 : decode mX12_acts.2.2.1 24 = .ok (.iastore, 1) := by decide +kernel
theorem d_X12_acts_25 : decode mX12_acts.2.2.1 25 = .ok (.aload_n 0, 1) := by decide +kernel
theorem d_X12_acts_26 : decode mX12_acts.2.2.1 26 = .ok (.getfield 246, 3) := by decide +kernel
theorem d_X12_acts_29 : decode mX12_acts.2.2.1 29 = .ok (.aload_n 0, 1) := by decide +kernel
theorem d_X12_acts_30 : decode mX12_acts.2.2.1 30 = .ok (.getfield 240, 3) := by decide +kernel
theorem d_X12_acts_33 : decode mX12_acts.2.2.1 33 = .ok (.iload_n 2, 1) := by decide +kernel
theorem d_X12_acts_34 : decode mX12_acts.2.2.1 34 = .ok (.iastore, 1) := by decide +kernel
theorem d_X12_acts_35 : decode mX12_acts.2.2.1 35 = .ok (.aload_n 0, 1) := by decide +kernel
theorem d_X12_acts_36 : decode mX12_acts.2.2.1 36 = .ok (.getfield 249, 3) := by decide +kernel
theorem d_X12_acts_39 : decode mX12_acts.2.2.1 39 = .ok (.aload_n 0, 1) := by decide +kernel
theorem d_X12_acts_40 : decode mX12_acts.2.2.1 40 = .ok (.getfield 240, 3) := by decide +kernel
theorem d_X12_acts_43 : decode mX12_acts.2.2.1 43 = .ok (.iload_n 3, 1) := by decide +kernel
theorem d_X12_acts_44 : decode mX12_acts.2.2.1 44 = .ok (.iastore, 1) := by decide +kernel
theorem d_X12_acts_45 : decode mX12_acts.2.2.1 45 = .ok (.aload_n 0, 1) := by decide +kernel
theorem d_X12_acts_46 : decode mX12_acts.2.2.1 46 = .ok (.dup, 1) := by decide +kernel
theorem d_X12_acts_47 : decode mX12_acts.2.2.1 47 = .ok (.getfield 240, 3) := by decide +kernel
theorem d_X12_acts_50 : decode mX12_acts.2.2.1 50 = .ok (.iconst 1, 1) := by decide +kernel
theorem d_X12_acts_51 : decode mX12_acts.2.2.1 51 = .ok (.iadd, 1) := by decide +kernel
theorem d_X12_acts_52 : decode mX12_acts.2.2.1 52 = .ok (.putfield 240, 3) := by decide +kernel
theorem d_X12_acts_55 : decode mX12_acts.2.2.1 55 = .ok (.return_, 1) := by decide +kernel
theorem d_X12_acts_14 : decode mX12_acts.2.2.1 14 = .ok (.return_, 1) := by decide +kernel
theorem ok_X12_acts : e_m mX12_acts 3 := ⟨tblG_in (inT9 (List.mem_of_getElem? (i := 115) rfl)) rfl, plainFor_of_name (by decide), rfl, ini_12, by decide +kernel, by decide⟩
theorem d_X12_ticksOf_59 : decode mX12_ticksOf.2.2.1 59 = .ok (.iinc 8 1, 3) := by decide +kernel
theorem d_X12_ticksOf_62 : decode mX12_ticksOf.2.2.1 62 = .ok (.goto (-46), 3) := by decide +kernel
theorem ok_X12_ticksOf : e_m mX12_ticksOf 6 := ⟨tblG_in (inT9 (List.mem_of_getElem? (i := 111) rfl)) rfl, plainFor_of_name (by decide), rfl, ini_12, by decide +kernel, by decide⟩
theorem d_X12_touches_84 : decode mX12_touches.2.2.1 84 = .ok (.ireturn, 1) := by decide +kernel
theorem d_X12_touches_46 : decode mX12_touches.2.2.1 46 = .ok (.iconst 1, 1) := by decide +kernel
theorem d_X12_touches_47 : decode mX12_touches.2.2.1 47 = .ok (.ireturn, 1) := by decide +kernel
theorem ok_X12_touches : e_m mX12_touches 2 := ⟨tblG_in (inT9 (List.mem_of_getElem? (i := 132) rfl)) rfl, plainFor_of_name (by decide), rfl, ini_12, by decide +kernel, by decide⟩
theorem d_X12_does_150 : decode mX12_does.2.2.1 150 = .ok (.ireturn, 1) := by decide +kernel
theorem d_X12_does_102 : decode mX12_does.2.2.1 102 = .ok (.aload_n 0, 1) := by decide +kernel
theorem d_X12_does_103 : decode mX12_does.2.2.1 103 = .ok (.iconst (-1), 1) := by decide +kernel
theorem d_X12_does_104 : decode mX12_does.2.2.1 104 = .ok (.iconst 0, 1) := by decide +kernel
theorem d_X12_does_105 : decode mX12_does.2.2.1 105 = .ok (.aload_n 0, 1) := by decide +kernel
theorem d_X12_does_106 : decode mX12_does.2.2.1 106 = .ok (.iload_n 1, 1) := by decide +kernel
theorem d_X12_does_107 : decode mX12_does.2.2.1 107 = .ok (.invokevirtual 614, 3) := by decide +kernel
theorem d_X12_does_110 : decode mX12_does.2.2.1 110 = .ok (.bipush 100, 2) := by decide +kernel
theorem d_X12_does_112 : decode mX12_does.2.2.1 112 = .ok (.invokestatic 618, 3) := by decide +kernel
def mX12_within : MD := (12, yX12_within, cX12_within, 3, some .int)
theorem s_12_618 : e_siteS 12 618 mX12_within := ⟨tblG_in (inT9 (List.mem_of_getElem? (i := 97) rfl)) rfl, tblG_in (inT9 (List.mem_of_getElem? (i := 98) rfl)) rfl⟩
theorem d_X12_within_0 : decode mX12_within.2.2.1 0 = .ok (.lload_n 0, 1) := by decide +kernel
theorem d_X12_within_1 : decode mX12_within.2.2.1 1 = .ok (.lconst 0, 1) := by decide +kernel
theorem d_X12_within_2 : decode mX12_within.2.2.1 2 = .ok (.lcmp, 1) := by decide +kernel
theorem d_X12_within_3 : decode mX12_within.2.2.1 3 = .ok (.ifCond .ge 7, 3) := by decide +kernel
theorem d_X12_within_10 : decode mX12_within.2.2.1 10 = .ok (.lload_n 0, 1) := by decide +kernel
theorem d_X12_within_11 : decode mX12_within.2.2.1 11 = .ok (.iload_n 2, 1) := by decide +kernel
theorem d_X12_within_12 : decode mX12_within.2.2.1 12 = .ok (.i2l, 1) := by decide +kernel
theorem d_X12_within_13 : decode mX12_within.2.2.1 13 = .ok (.lcmp, 1) := by decide +kernel
theorem d_X12_within_14 : decode mX12_within.2.2.1 14 = .ok (.ifCond .le 7, 3) := by decide +kernel
theorem d_X12_within_21 : decode mX12_within.2.2.1 21 = .ok (.lload_n 0, 1) := by decide +kernel
theorem d_X12_within_22 : decode mX12_within.2.2.1 22 = .ok (.l2i, 1) := by decide +kernel
theorem d_X12_within_23 : decode mX12_within.2.2.1 23 = .ok (.ireturn, 1) := by decide +kernel
theorem d_X12_within_17 : decode mX12_within.2.2.1 17 = .ok (.iload_n 2, 1) := by decide +kernel
theorem d_X12_within_18 : decode mX12_within.2.2.1 18 = .ok (.goto 5, 3) := by decide +kernel
theorem d_X12_within_6 : decode mX12_within.2.2.1 6 = .ok (.iconst 0, 1) := by decide +kernel
theorem d_X12_within_7 : decode mX12_within.2.2.1 7 = .ok (.goto 16, 3) := by decide +kernel
theorem ok_X12_within : e_m mX12_within 2 := ⟨tblG_in (inT9 (List.mem_of_getElem? (i := 99) rfl)) rfl, plainFor_of_name (by decide), rfl, ini_12, by decide +kernel, by decide⟩
theorem d_X12_does_115 : decode mX12_does.2.2.1 115 = .ok (.iload_n 2, 1) := by decide +kernel
theorem d_X12_does_116 : decode mX12_does.2.2.1 116 = .ok (.iconst 0, 1) := by decide +kernel
theorem d_X12_does_117 : decode mX12_does.2.2.1 117 = .ok (.iconst 0, 1) := by decide +kernel
theorem d_X12_does_118 : decode mX12_does.2.2.1 118 = .ok (.invokevirtual 587, 3) := by decide +kernel
theorem d_X12_does_121 : decode mX12_does.2.2.1 121 = .ok (.ireturn, 1) := by decide +kernel
theorem d_X12_does_94 : decode mX12_does.2.2.1 94 = .ok (.aload_n 0, 1) := by decide +kernel
theorem d_X12_does_95 : decode mX12_does.2.2.1 95 = .ok (.iload_n 3, 1) := by decide +kernel
theorem d_X12_does_96 : decode mX12_does.2.2.1 96 = .ok (.iload_n 2, 1) := by decide +kernel
theorem d_X12_does_97 : decode mX12_does.2.2.1 97 = .ok (.invokevirtual 628, 3) := by decide +kernel
def mX12_frees : MD := (12, yX12_frees, cX12_frees, 3, none)
theorem sel_X12_frees : Cond.instanceMethod mX12_frees.2.1 ∈ tblG ∧ Cond.selects mX12_frees.2.1.cls mX12_frees.2.1 mX12_frees.2.1 ∈ tblG := ⟨tblG_in (inT9 (List.mem_of_getElem? (i := 126) rfl)) rfl, tblG_in (inP8 (q := (mX12_frees.2.1, 121)) (List.mem_of_getElem? (i := 9) rfl)) rfl⟩
theorem s_12_628 : e_siteV 12 628 mX12_frees 12 := ⟨tblG_in (inT9 (List.mem_of_getElem? (i := 124) rfl)) rfl, sel_X12_frees.1, sel_X12_frees.2, rfl⟩
theorem d_X12_frees_0 : decode mX12_frees.2.2.1 0 = .ok (.aload_n 0, 1) := by decide +kernel
theorem d_X12_frees_1 : decode mX12_frees.2.2.1 1 = .ok (.getfield 177, 3) := by decide +kernel
theorem d_X12_frees_4 : decode mX12_frees.2.2.1 4 = .ok (.iload_n 1, 1) := by decide +kernel
theorem d_X12_frees_5 : decode mX12_frees.2.2.1 5 = .ok (.baload, 1) := by decide +kernel
theorem d_X12_frees_6 : decode mX12_frees.2.2.1 6 = .ok (.ifCond .ne 4, 3) := by decide +kernel
theorem d_X12_frees_10 : decode mX12_frees.2.2.1 10 = .ok (.aload_n 0, 1) := by decide +kernel
theorem d_X12_frees_11 : decode mX12_frees.2.2.1 11 = .ok (.iload_n 1, 1) := by decide +kernel
theorem d_X12_frees_12 : decode mX12_frees.2.2.1 12 = .ok (.iload_n 2, 1) := by decide +kernel
theorem d_X12_frees_13 : decode mX12_frees.2.2.1 13 = .ok (.aload_n 0, 1) := by decide +kernel
theorem d_X12_frees_14 : decode mX12_frees.2.2.1 14 = .ok (.getfield 201, 3) := by decide +kernel
theorem d_X12_frees_17 : decode mX12_frees.2.2.1 17 = .ok (.iconst 1, 1) := by decide +kernel
theorem d_X12_frees_18 : decode mX12_frees.2.2.1 18 = .ok (.isub, 1) := by decide +kernel
theorem d_X12_frees_19 : decode mX12_frees.2.2.1 19 = .ok (.invokevirtual 580, 3) := by decide +kernel
theorem d_X12_frees_22 : decode mX12_frees.2.2.1 22 = .ok (.aload_n 0, 1) := by decide +kernel
theorem d_X12_frees_23 : decode mX12_frees.2.2.1 23 = .ok (.getfield 177, 3) := by decide +kernel
theorem d_X12_frees_26 : decode mX12_frees.2.2.1 26 = .ok (.iload_n 1, 1) := by decide +kernel
theorem d_X12_frees_27 : decode mX12_frees.2.2.1 27 = .ok (.iconst 0, 1) := by decide +kernel
theorem d_X12_frees_28 : decode mX12_frees.2.2.1 28 = .ok (.bastore, 1) := by decide +kernel
theorem d_X12_frees_29 : decode mX12_frees.2.2.1 29 = .ok (.aload_n 0, 1) := by decide +kernel
theorem d_X12_frees_30 : decode mX12_frees.2.2.1 30 = .ok (.getfield 183, 3) := by decide +kernel
theorem d_X12_frees_33 : decode mX12_frees.2.2.1 33 = .ok (.iload_n 1, 1) := by decide +kernel
theorem d_X12_frees_34 : decode mX12_frees.2.2.1 34 = .ok (.aload_n 0, 1) := by decide +kernel
theorem d_X12_frees_35 : decode mX12_frees.2.2.1 35 = .ok (.iload_n 1, 1) := by decide +kernel
theorem d_X12_frees_36 : decode mX12_frees.2.2.1 36 = .ok (.invokevirtual 591, 3) := by decide +kernel
theorem d_X12_frees_39 : decode mX12_frees.2.2.1 39 = .ok (.iastore, 1) := by decide +kernel
theorem d_X12_frees_40 : decode mX12_frees.2.2.1 40 = .ok (.return_, 1) := by decide +kernel
theorem d_X12_frees_9 : decode mX12_frees.2.2.1 9 = .ok (.return_, 1) := by decide +kernel
theorem ok_X12_frees : e_m mX12_frees 2 := ⟨tblG_in (inT9 (List.mem_of_getElem? (i := 127) rfl)) rfl, plainFor_of_name (by decide), rfl, ini_12, by decide +kernel, by decide⟩
theorem d_X12_does_100 : decode mX12_does.2.2.1 100 = .ok (.iconst 1, 1) := by decide +kernel
theorem d_X12_does_101 : decode mX12_does.2.2.1 101 = .ok (.ireturn, 1) := by decide +kernel
theorem d_X12_does_87 : decode mX12_does.2.2.1 87 = .ok (.aload_n 0, 1) := by decide +kernel
theorem d_X12_does_88 : decode mX12_does.2.2.1 88 = .ok (.iload_n 3, 1) := by decide +kernel
theorem d_X12_does_89 : decode mX12_does.2.2.1 89 = .ok (.iload_n 2, 1) := by decide +kernel
theorem d_X12_does_90 : decode mX12_does.2.2.1 90 = .ok (.invokevirtual 624, 3) := by decide +kernel
def mX12_holds : MD := (12, yX12_holds, cX12_holds, 5, some .boolean)
theorem sel_X12_holds : Cond.instanceMethod mX12_holds.2.1 ∈ tblG ∧ Cond.selects mX12_holds.2.1.cls mX12_holds.2.1 mX12_holds.2.1 ∈ tblG := ⟨tblG_in (inT9 (List.mem_of_getElem? (i := 122) rfl)) rfl, tblG_in (inP8 (q := (mX12_holds.2.1, 121)) (List.mem_of_getElem? (i := 8) rfl)) rfl⟩
theorem s_12_624 : e_siteV 12 624 mX12_holds 12 := ⟨tblG_in (inT9 (List.mem_of_getElem? (i := 120) rfl)) rfl, sel_X12_holds.1, sel_X12_holds.2, rfl⟩
theorem d_X12_holds_0 : decode mX12_holds.2.2.1 0 = .ok (.aload_n 0, 1) := by decide +kernel
theorem d_X12_holds_1 : decode mX12_holds.2.2.1 1 = .ok (.getfield 177, 3) := by decide +kernel
theorem d_X12_holds_4 : decode mX12_holds.2.2.1 4 = .ok (.iload_n 1, 1) := by decide +kernel
theorem d_X12_holds_5 : decode mX12_holds.2.2.1 5 = .ok (.baload, 1) := by decide +kernel
theorem d_X12_holds_6 : decode mX12_holds.2.2.1 6 = .ok (.ifCond .eq 5, 3) := by decide +kernel
theorem d_X12_holds_11 : decode mX12_holds.2.2.1 11 = .ok (.aload_n 0, 1) := by decide +kernel
theorem d_X12_holds_12 : decode mX12_holds.2.2.1 12 = .ok (.getfield 201, 3) := by decide +kernel
theorem d_X12_holds_15 : decode mX12_holds.2.2.1 15 = .ok (.iconst 1, 1) := by decide +kernel
theorem d_X12_holds_16 : decode mX12_holds.2.2.1 16 = .ok (.isub, 1) := by decide +kernel
theorem d_X12_holds_17 : decode mX12_holds.2.2.1 17 = .ok (.istore_n 3, 1) := by decide +kernel
theorem d_X12_holds_18 : decode mX12_holds.2.2.1 18 = .ok (.aload_n 0, 1) := by decide +kernel
theorem d_X12_holds_19 : decode mX12_holds.2.2.1 19 = .ok (.iload_n 1, 1) := by decide +kernel
theorem d_X12_holds_20 : decode mX12_holds.2.2.1 20 = .ok (.invokevirtual 571, 3) := by decide +kernel
theorem d_X12_holds_23 : decode mX12_holds.2.2.1 23 = .ok (.ifCond .ne 11, 3) := by decide +kernel
theorem d_X12_holds_34 : decode mX12_holds.2.2.1 34 = .ok (.iconst 0, 1) := by decide +kernel
theorem d_X12_holds_26 : decode mX12_holds.2.2.1 26 = .ok (.aload_n 0, 1) := by decide +kernel
theorem d_X12_holds_27 : decode mX12_holds.2.2.1 27 = .ok (.iload_n 1, 1) := by decide +kernel
theorem d_X12_holds_28 : decode mX12_holds.2.2.1 28 = .ok (.invokevirtual 584, 3) := by decide +kernel
def mX12_wakes : MD := (12, yX12_wakes, cX12_wakes, 2, some .int)
theorem sel_X12_wakes : Cond.instanceMethod mX12_wakes.2.1 ∈ tblG ∧ Cond.selects mX12_wakes.2.1.cls mX12_wakes.2.1 mX12_wakes.2.1 ∈ tblG := ⟨tblG_in (inT9 (List.mem_of_getElem? (i := 106) rfl)) rfl, tblG_in (inP8 (q := (mX12_wakes.2.1, 121)) (List.mem_of_getElem? (i := 4) rfl)) rfl⟩
theorem s_12_584 : e_siteV 12 584 mX12_wakes 12 := ⟨tblG_in (inT9 (List.mem_of_getElem? (i := 104) rfl)) rfl, sel_X12_wakes.1, sel_X12_wakes.2, rfl⟩
theorem d_X12_wakes_0 : decode mX12_wakes.2.2.1 0 = .ok (.aload_n 0, 1) := by decide +kernel
theorem d_X12_wakes_1 : decode mX12_wakes.2.2.1 1 = .ok (.iload_n 1, 1) := by decide +kernel
theorem d_X12_wakes_2 : decode mX12_wakes.2.2.1 2 = .ok (.iconst 1, 1) := by decide +kernel
theorem d_X12_wakes_3 : decode mX12_wakes.2.2.1 3 = .ok (.invokevirtual 565, 3) := by decide +kernel
theorem d_X12_wakes_6 : decode mX12_wakes.2.2.1 6 = .ok (.ireturn, 1) := by decide +kernel
theorem ok_X12_wakes : e_m mX12_wakes 1 := ⟨tblG_in (inT9 (List.mem_of_getElem? (i := 107) rfl)) rfl, plainFor_of_name (by decide), rfl, ini_12, by decide +kernel, by decide⟩
end
/-! 35.09 -/
section
theorem d_X12_holds_31 : decode mX12_holds.2.2.1 31 = .ok (.goto 4, 3) := by decide +kernel
theorem d_X12_holds_9 : decode mX12_holds.2.2.1 9 = .ok (.iconst 1, 1) := by decide +kernel
theorem d_X12_holds_10 : decode mX12_holds.2.2.1 10 = .ok (.ireturn, 1) := by decide +kernel
theorem d_X12_holds_35 : decode mX12_holds.2.2.1 35 = .ok (.istore 4, 2) := by decide +kernel
theorem d_X12_holds_37 : decode mX12_holds.2.2.1 37 = .ok (.aload_n 0, 1) := by decide +kernel
theorem d_X12_holds_38 : decode mX12_holds.2.2.1 38 = .ok (.iload_n 1, 1) := by decide +kernel
theorem d_X12_holds_39 : decode mX12_holds.2.2.1 39 = .ok (.iconst 1, 1) := by decide +kernel
theorem d_X12_holds_40 : decode mX12_holds.2.2.1 40 = .ok (.iload 4, 2) := by decide +kernel
theorem d_X12_holds_42 : decode mX12_holds.2.2.1 42 = .ok (.iload_n 2, 1) := by decide +kernel
theorem d_X12_holds_43 : decode mX12_holds.2.2.1 43 = .ok (.iconst 1, 1) := by decide +kernel
theorem d_X12_holds_44 : decode mX12_holds.2.2.1 44 = .ok (.iload_n 3, 1) := by decide +kernel
theorem d_X12_holds_45 : decode mX12_holds.2.2.1 45 = .ok (.invokevirtual 587, 3) := by decide +kernel
theorem d_X12_holds_48 : decode mX12_holds.2.2.1 48 = .ok (.ifCond .ne 24, 3) := by decide +kernel
theorem d_X12_holds_72 : decode mX12_holds.2.2.1 72 = .ok (.iload 4, 2) := by decide +kernel
theorem d_X12_holds_74 : decode mX12_holds.2.2.1 74 = .ok (.ifCond .ne 10, 3) := by decide +kernel
theorem d_X12_holds_77 : decode mX12_holds.2.2.1 77 = .ok (.aload_n 0, 1) := by decide +kernel
theorem d_X12_holds_78 : decode mX12_holds.2.2.1 78 = .ok (.iload_n 1, 1) := by decide +kernel
theorem d_X12_holds_79 : decode mX12_holds.2.2.1 79 = .ok (.iload_n 2, 1) := by decide +kernel
theorem d_X12_holds_80 : decode mX12_holds.2.2.1 80 = .ok (.iload_n 3, 1) := by decide +kernel
theorem d_X12_holds_81 : decode mX12_holds.2.2.1 81 = .ok (.invokevirtual 580, 3) := by decide +kernel
theorem d_X12_holds_51 : decode mX12_holds.2.2.1 51 = .ok (.aload_n 0, 1) := by decide +kernel
theorem d_X12_holds_52 : decode mX12_holds.2.2.1 52 = .ok (.aload_n 0, 1) := by decide +kernel
theorem d_X12_holds_53 : decode mX12_holds.2.2.1 53 = .ok (.getfield 201, 3) := by decide +kernel
theorem d_X12_holds_56 : decode mX12_holds.2.2.1 56 = .ok (.iload_n 3, 1) := by decide +kernel
theorem d_X12_holds_57 : decode mX12_holds.2.2.1 57 = .ok (.iconst 1, 1) := by decide +kernel
theorem d_X12_holds_58 : decode mX12_holds.2.2.1 58 = .ok (.iadd, 1) := by decide +kernel
theorem d_X12_holds_59 : decode mX12_holds.2.2.1 59 = .ok (.if_icmp .le 7, 3) := by decide +kernel
theorem d_X12_holds_66 : decode mX12_holds.2.2.1 66 = .ok (.iconst (-1), 1) := by decide +kernel
theorem d_X12_holds_67 : decode mX12_holds.2.2.1 67 = .ok (.putfield 195, 3) := by decide +kernel
theorem d_X12_holds_70 : decode mX12_holds.2.2.1 70 = .ok (.iconst 0, 1) := by decide +kernel
theorem d_X12_holds_71 : decode mX12_holds.2.2.1 71 = .ok (.ireturn, 1) := by decide +kernel
theorem d_X12_holds_62 : decode mX12_holds.2.2.1 62 = .ok (.iload_n 1, 1) := by decide +kernel
theorem d_X12_holds_63 : decode mX12_holds.2.2.1 63 = .ok (.goto 4, 3) := by decide +kernel
theorem d_X12_holds_84 : decode mX12_holds.2.2.1 84 = .ok (.aload_n 0, 1) := by decide +kernel
theorem d_X12_holds_85 : decode mX12_holds.2.2.1 85 = .ok (.getfield 177, 3) := by decide +kernel
theorem d_X12_holds_88 : decode mX12_holds.2.2.1 88 = .ok (.iload_n 1, 1) := by decide +kernel
theorem d_X12_holds_89 : decode mX12_holds.2.2.1 89 = .ok (.iconst 1, 1) := by decide +kernel
theorem d_X12_holds_90 : decode mX12_holds.2.2.1 90 = .ok (.bastore, 1) := by decide +kernel
theorem d_X12_holds_91 : decode mX12_holds.2.2.1 91 = .ok (.aload_n 0, 1) := by decide +kernel
theorem d_X12_holds_92 : decode mX12_holds.2.2.1 92 = .ok (.getfield 180, 3) := by decide +kernel
theorem d_X12_holds_95 : decode mX12_holds.2.2.1 95 = .ok (.iload_n 1, 1) := by decide +kernel
theorem d_X12_holds_96 : decode mX12_holds.2.2.1 96 = .ok (.iload_n 2, 1) := by decide +kernel
theorem d_X12_holds_97 : decode mX12_holds.2.2.1 97 = .ok (.iastore, 1) := by decide +kernel
theorem d_X12_holds_98 : decode mX12_holds.2.2.1 98 = .ok (.iconst 1, 1) := by decide +kernel
theorem d_X12_holds_99 : decode mX12_holds.2.2.1 99 = .ok (.ireturn, 1) := by decide +kernel
theorem ok_X12_holds : e_m mX12_holds 2 := ⟨tblG_in (inT9 (List.mem_of_getElem? (i := 123) rfl)) rfl, plainFor_of_name (by decide), rfl, ini_12, by decide +kernel, by decide⟩
theorem d_X12_does_93 : decode mX12_does.2.2.1 93 = .ok (.ireturn, 1) := by decide +kernel
theorem d_X12_does_70 : decode mX12_does.2.2.1 70 = .ok (.aload_n 0, 1) := by decide +kernel
theorem d_X12_does_71 : decode mX12_does.2.2.1 71 = .ok (.iload_n 3, 1) := by decide +kernel
theorem d_X12_does_72 : decode mX12_does.2.2.1 72 = .ok (.aload_n 0, 1) := by decide +kernel
theorem d_X12_does_73 : decode mX12_does.2.2.1 73 = .ok (.iload_n 1, 1) := by decide +kernel
theorem d_X12_does_74 : decode mX12_does.2.2.1 74 = .ok (.invokevirtual 614, 3) := by decide +kernel
theorem d_X12_does_77 : decode mX12_does.2.2.1 77 = .ok (.bipush 50, 2) := by decide +kernel
theorem d_X12_does_79 : decode mX12_does.2.2.1 79 = .ok (.invokestatic 618, 3) := by decide +kernel
theorem d_X12_does_82 : decode mX12_does.2.2.1 82 = .ok (.iload_n 2, 1) := by decide +kernel
theorem d_X12_does_83 : decode mX12_does.2.2.1 83 = .ok (.invokevirtual 621, 3) := by decide +kernel
def mX12_uses : MD := (12, yX12_uses, cX12_uses, 6, some .boolean)
theorem sel_X12_uses : Cond.instanceMethod mX12_uses.2.1 ∈ tblG ∧ Cond.selects mX12_uses.2.1.cls mX12_uses.2.1 mX12_uses.2.1 ∈ tblG := ⟨tblG_in (inT9 (List.mem_of_getElem? (i := 102) rfl)) rfl, tblG_in (inP8 (q := (mX12_uses.2.1, 121)) (List.mem_of_getElem? (i := 3) rfl)) rfl⟩
theorem s_12_621 : e_siteV 12 621 mX12_uses 12 := ⟨tblG_in (inT9 (List.mem_of_getElem? (i := 100) rfl)) rfl, sel_X12_uses.1, sel_X12_uses.2, rfl⟩
theorem d_X12_uses_0 : decode mX12_uses.2.2.1 0 = .ok (.aload_n 0, 1) := by decide +kernel
theorem d_X12_uses_1 : decode mX12_uses.2.2.1 1 = .ok (.getfield 201, 3) := by decide +kernel
theorem d_X12_uses_4 : decode mX12_uses.2.2.1 4 = .ok (.iconst 1, 1) := by decide +kernel
theorem d_X12_uses_5 : decode mX12_uses.2.2.1 5 = .ok (.isub, 1) := by decide +kernel
theorem d_X12_uses_6 : decode mX12_uses.2.2.1 6 = .ok (.istore 4, 2) := by decide +kernel
theorem d_X12_uses_8 : decode mX12_uses.2.2.1 8 = .ok (.aload_n 0, 1) := by decide +kernel
theorem d_X12_uses_9 : decode mX12_uses.2.2.1 9 = .ok (.iload_n 1, 1) := by decide +kernel
theorem d_X12_uses_10 : decode mX12_uses.2.2.1 10 = .ok (.invokevirtual 571, 3) := by decide +kernel
theorem d_X12_uses_13 : decode mX12_uses.2.2.1 13 = .ok (.ifCond .ne 11, 3) := by decide +kernel
theorem d_X12_uses_24 : decode mX12_uses.2.2.1 24 = .ok (.iconst 0, 1) := by decide +kernel
theorem d_X12_uses_16 : decode mX12_uses.2.2.1 16 = .ok (.aload_n 0, 1) := by decide +kernel
theorem d_X12_uses_17 : decode mX12_uses.2.2.1 17 = .ok (.iload_n 1, 1) := by decide +kernel
theorem d_X12_uses_18 : decode mX12_uses.2.2.1 18 = .ok (.invokevirtual 584, 3) := by decide +kernel
theorem d_X12_uses_21 : decode mX12_uses.2.2.1 21 = .ok (.goto 4, 3) := by decide +kernel
theorem d_X12_uses_25 : decode mX12_uses.2.2.1 25 = .ok (.istore 5, 2) := by decide +kernel
theorem d_X12_uses_27 : decode mX12_uses.2.2.1 27 = .ok (.aload_n 0, 1) := by decide +kernel
theorem d_X12_uses_28 : decode mX12_uses.2.2.1 28 = .ok (.iload_n 1, 1) := by decide +kernel
theorem d_X12_uses_29 : decode mX12_uses.2.2.1 29 = .ok (.iconst 1, 1) := by decide +kernel
theorem d_X12_uses_30 : decode mX12_uses.2.2.1 30 = .ok (.iload 5, 2) := by decide +kernel
theorem d_X12_uses_32 : decode mX12_uses.2.2.1 32 = .ok (.iload_n 3, 1) := by decide +kernel
theorem d_X12_uses_33 : decode mX12_uses.2.2.1 33 = .ok (.iconst 1, 1) := by decide +kernel
theorem d_X12_uses_34 : decode mX12_uses.2.2.1 34 = .ok (.iload 4, 2) := by decide +kernel
theorem d_X12_uses_36 : decode mX12_uses.2.2.1 36 = .ok (.invokevirtual 587, 3) := by decide +kernel
theorem d_X12_uses_39 : decode mX12_uses.2.2.1 39 = .ok (.ifCond .eq 26, 3) := by decide +kernel
theorem d_X12_uses_42 : decode mX12_uses.2.2.1 42 = .ok (.aload_n 0, 1) := by decide +kernel
theorem d_X12_uses_43 : decode mX12_uses.2.2.1 43 = .ok (.iload_n 1, 1) := by decide +kernel
theorem d_X12_uses_44 : decode mX12_uses.2.2.1 44 = .ok (.iconst 3, 1) := by decide +kernel
theorem d_X12_uses_45 : decode mX12_uses.2.2.1 45 = .ok (.iload_n 2, 1) := by decide +kernel
theorem d_X12_uses_46 : decode mX12_uses.2.2.1 46 = .ok (.iload_n 3, 1) := by decide +kernel
theorem d_X12_uses_47 : decode mX12_uses.2.2.1 47 = .ok (.iload 5, 2) := by decide +kernel
theorem d_X12_uses_49 : decode mX12_uses.2.2.1 49 = .ok (.ifCond .ne 7, 3) := by decide +kernel
theorem d_X12_uses_56 : decode mX12_uses.2.2.1 56 = .ok (.iconst 0, 1) := by decide +kernel
theorem d_X12_uses_52 : decode mX12_uses.2.2.1 52 = .ok (.iconst 1, 1) := by decide +kernel
theorem d_X12_uses_53 : decode mX12_uses.2.2.1 53 = .ok (.goto 4, 3) := by decide +kernel
theorem d_X12_uses_57 : decode mX12_uses.2.2.1 57 = .ok (.iload 4, 2) := by decide +kernel
theorem d_X12_uses_59 : decode mX12_uses.2.2.1 59 = .ok (.invokevirtual 587, 3) := by decide +kernel
theorem d_X12_uses_62 : decode mX12_uses.2.2.1 62 = .ok (.ifCond .ne 25, 3) := by decide +kernel
theorem d_X12_uses_87 : decode mX12_uses.2.2.1 87 = .ok (.iload 5, 2) := by decide +kernel
theorem d_X12_uses_89 : decode mX12_uses.2.2.1 89 = .ok (.iload_n 2, 1) := by decide +kernel
theorem d_X12_uses_90 : decode mX12_uses.2.2.1 90 = .ok (.iadd, 1) := by decide +kernel
theorem d_X12_uses_91 : decode mX12_uses.2.2.1 91 = .ok (.ifCond .ne 11, 3) := by decide +kernel
theorem d_X12_uses_94 : decode mX12_uses.2.2.1 94 = .ok (.aload_n 0, 1) := by decide +kernel
theorem d_X12_uses_95 : decode mX12_uses.2.2.1 95 = .ok (.iload_n 1, 1) := by decide +kernel
theorem d_X12_uses_96 : decode mX12_uses.2.2.1 96 = .ok (.iload_n 3, 1) := by decide +kernel
theorem d_X12_uses_97 : decode mX12_uses.2.2.1 97 = .ok (.iload 4, 2) := by decide +kernel
theorem d_X12_uses_99 : decode mX12_uses.2.2.1 99 = .ok (.invokevirtual 580, 3) := by decide +kernel
theorem d_X12_uses_102 : decode mX12_uses.2.2.1 102 = .ok (.iload_n 2, 1) := by decide +kernel
theorem d_X12_uses_103 : decode mX12_uses.2.2.1 103 = .ok (.ifCond .ne 53, 3) := by decide +kernel
theorem d_X12_uses_106 : decode mX12_uses.2.2.1 106 = .ok (.aload_n 0, 1) := by decide +kernel
theorem d_X12_uses_107 : decode mX12_uses.2.2.1 107 = .ok (.getfield 225, 3) := by decide +kernel
theorem d_X12_uses_110 : decode mX12_uses.2.2.1 110 = .ok (.ifCond .eq 46, 3) := by decide +kernel
theorem d_X12_uses_113 : decode mX12_uses.2.2.1 113 = .ok (.aload_n 0, 1) := by decide +kernel
theorem d_X12_uses_114 : decode mX12_uses.2.2.1 114 = .ok (.getfield 255, 3) := by decide +kernel
theorem d_X12_uses_117 : decode mX12_uses.2.2.1 117 = .ok (.aload_n 0, 1) := by decide +kernel
theorem d_X12_uses_118 : decode mX12_uses.2.2.1 118 = .ok (.getfield 252, 3) := by decide +kernel
theorem d_X12_uses_121 : decode mX12_uses.2.2.1 121 = .ok (.iload_n 1, 1) := by decide +kernel
theorem d_X12_uses_122 : decode mX12_uses.2.2.1 122 = .ok (.iastore, 1) := by decide +kernel
theorem d_X12_uses_123 : decode mX12_uses.2.2.1 123 = .ok (.aload_n 0, 1) := by decide +kernel
theorem d_X12_uses_124 : decode mX12_uses.2.2.1 124 = .ok (.getfield 258, 3) := by decide +kernel
theorem d_X12_uses_127 : decode mX12_uses.2.2.1 127 = .ok (.aload_n 0, 1) := by decide +kernel
theorem d_X12_uses_128 : decode mX12_uses.2.2.1 128 = .ok (.getfield 252, 3) := by decide +kernel
theorem d_X12_uses_131 : decode mX12_uses.2.2.1 131 = .ok (.iload_n 3, 1) := by decide +kernel
theorem d_X12_uses_132 : decode mX12_uses.2.2.1 132 = .ok (.iastore, 1) := by decide +kernel
theorem d_X12_uses_133 : decode mX12_uses.2.2.1 133 = .ok (.aload_n 0, 1) := by decide +kernel
theorem d_X12_uses_134 : decode mX12_uses.2.2.1 134 = .ok (.getfield 261, 3) := by decide +kernel
theorem d_X12_uses_137 : decode mX12_uses.2.2.1 137 = .ok (.aload_n 0, 1) := by decide +kernel
theorem d_X12_uses_138 : decode mX12_uses.2.2.1 138 = .ok (.getfield 252, 3) := by decide +kernel
theorem d_X12_uses_141 : decode mX12_uses.2.2.1 141 = .ok (.aload_n 0, 1) := by decide +kernel
theorem d_X12_uses_142 : decode mX12_uses.2.2.1 142 = .ok (.getfield 201, 3) := by decide +kernel
theorem d_X12_uses_145 : decode mX12_uses.2.2.1 145 = .ok (.iastore, 1) := by decide +kernel
theorem d_X12_uses_146 : decode mX12_uses.2.2.1 146 = .ok (.aload_n 0, 1) := by decide +kernel
theorem d_X12_uses_147 : decode mX12_uses.2.2.1 147 = .ok (.dup, 1) := by decide +kernel
theorem d_X12_uses_148 : decode mX12_uses.2.2.1 148 = .ok (.getfield 252, 3) := by decide +kernel
theorem d_X12_uses_151 : decode mX12_uses.2.2.1 151 = .ok (.iconst 1, 1) := by decide +kernel
theorem d_X12_uses_152 : decode mX12_uses.2.2.1 152 = .ok (.iadd, 1) := by decide +kernel
theorem d_X12_uses_153 : decode mX12_uses.2.2.1 153 = .ok (.putfield 252, 3) := by decide +kernel
theorem d_X12_uses_156 : decode mX12_uses.2.2.1 156 = .ok (.aload_n 0, 1) := by decide +kernel
theorem d_X12_uses_157 : decode mX12_uses.2.2.1 157 = .ok (.getfield 183, 3) := by decide +kernel
theorem d_X12_uses_160 : decode mX12_uses.2.2.1 160 = .ok (.iload_n 1, 1) := by decide +kernel
theorem d_X12_uses_161 : decode mX12_uses.2.2.1 161 = .ok (.aload_n 0, 1) := by decide +kernel
theorem d_X12_uses_162 : decode mX12_uses.2.2.1 162 = .ok (.iload_n 1, 1) := by decide +kernel
theorem d_X12_uses_163 : decode mX12_uses.2.2.1 163 = .ok (.invokevirtual 591, 3) := by decide +kernel
theorem d_X12_uses_166 : decode mX12_uses.2.2.1 166 = .ok (.iastore, 1) := by decide +kernel
theorem d_X12_uses_167 : decode mX12_uses.2.2.1 167 = .ok (.iconst 1, 1) := by decide +kernel
theorem d_X12_uses_168 : decode mX12_uses.2.2.1 168 = .ok (.ireturn, 1) := by decide +kernel
theorem d_X12_uses_65 : decode mX12_uses.2.2.1 65 = .ok (.aload_n 0, 1) := by decide +kernel
theorem d_X12_uses_66 : decode mX12_uses.2.2.1 66 = .ok (.aload_n 0, 1) := by decide +kernel
theorem d_X12_uses_67 : decode mX12_uses.2.2.1 67 = .ok (.getfield 201, 3) := by decide +kernel
theorem d_X12_uses_70 : decode mX12_uses.2.2.1 70 = .ok (.iload 4, 2) := by decide +kernel
theorem d_X12_uses_72 : decode mX12_uses.2.2.1 72 = .ok (.iconst 1, 1) := by decide +kernel
theorem d_X12_uses_73 : decode mX12_uses.2.2.1 73 = .ok (.iadd, 1) := by decide +kernel
theorem d_X12_uses_74 : decode mX12_uses.2.2.1 74 = .ok (.if_icmp .le 7, 3) := by decide +kernel
theorem d_X12_uses_81 : decode mX12_uses.2.2.1 81 = .ok (.iconst (-1), 1) := by decide +kernel
theorem d_X12_uses_82 : decode mX12_uses.2.2.1 82 = .ok (.putfield 195, 3) := by decide +kernel
theorem d_X12_uses_85 : decode mX12_uses.2.2.1 85 = .ok (.iconst 0, 1) := by decide +kernel
theorem d_X12_uses_86 : decode mX12_uses.2.2.1 86 = .ok (.ireturn, 1) := by decide +kernel
theorem d_X12_uses_77 : decode mX12_uses.2.2.1 77 = .ok (.iload_n 1, 1) := by decide +kernel
theorem d_X12_uses_78 : decode mX12_uses.2.2.1 78 = .ok (.goto 4, 3) := by decide +kernel
theorem ok_X12_uses : e_m mX12_uses 3 := ⟨tblG_in (inT9 (List.mem_of_getElem? (i := 103) rfl)) rfl, plainFor_of_name (by decide), rfl, ini_12, by decide +kernel, by decide⟩
theorem d_X12_does_86 : decode mX12_does.2.2.1 86 = .ok (.ireturn, 1) := by decide +kernel
theorem d_X12_does_56 : decode mX12_does.2.2.1 56 = .ok (.aload_n 0, 1) := by decide +kernel
theorem d_X12_does_57 : decode mX12_does.2.2.1 57 = .ok (.getfield 174, 3) := by decide +kernel
theorem d_X12_does_60 : decode mX12_does.2.2.1 60 = .ok (.iload_n 3, 1) := by decide +kernel
theorem d_X12_does_61 : decode mX12_does.2.2.1 61 = .ok (.aload_n 0, 1) := by decide +kernel
theorem d_X12_does_62 : decode mX12_does.2.2.1 62 = .ok (.iload_n 1, 1) := by decide +kernel
theorem d_X12_does_63 : decode mX12_does.2.2.1 63 = .ok (.invokevirtual 614, 3) := by decide +kernel
theorem d_X12_does_66 : decode mX12_does.2.2.1 66 = .ok (.l2i, 1) := by decide +kernel
theorem d_X12_does_67 : decode mX12_does.2.2.1 67 = .ok (.iastore, 1) := by decide +kernel
theorem d_X12_does_68 : decode mX12_does.2.2.1 68 = .ok (.iconst 1, 1) := by decide +kernel
theorem d_X12_does_69 : decode mX12_does.2.2.1 69 = .ok (.ireturn, 1) := by decide +kernel
theorem ok_X12_does : e_m mX12_does 1 := ⟨tblG_in (inT9 (List.mem_of_getElem? (i := 96) rfl)) rfl, plainFor_of_name (by decide), rfl, ini_12, by decide +kernel, by decide⟩
theorem d_X12_runs_296 : decode mX12_runs.2.2.1 296 = .ok (.istore 5, 2) := by decide +kernel
theorem d_X12_runs_298 : decode mX12_runs.2.2.1 298 = .ok (.iload 5, 2) := by decide +kernel
theorem d_X12_runs_300 : decode mX12_runs.2.2.1 300 = .ok (.ifCond .ne 14, 3) := by decide +kernel
theorem d_X12_runs_303 : decode mX12_runs.2.2.1 303 = .ok (.aload_n 0, 1) := by decide +kernel
theorem d_X12_runs_304 : decode mX12_runs.2.2.1 304 = .ok (.aload_n 0, 1) := by decide +kernel
theorem d_X12_runs_305 : decode mX12_runs.2.2.1 305 = .ok (.getfield 100, 3) := by decide +kernel
theorem d_X12_runs_308 : decode mX12_runs.2.2.1 308 = .ok (.iload 4, 2) := by decide +kernel
theorem d_X12_runs_310 : decode mX12_runs.2.2.1 310 = .ok (.iaload, 1) := by decide +kernel
theorem d_X12_runs_311 : decode mX12_runs.2.2.1 311 = .ok (.putfield 267, 3) := by decide +kernel
theorem d_X12_runs_314 : decode mX12_runs.2.2.1 314 = .ok (.goto (-152), 3) := by decide +kernel
theorem d_X12_runs_324 : decode mX12_runs.2.2.1 324 = .ok (.aload_n 0, 1) := by decide +kernel
theorem d_X12_runs_325 : decode mX12_runs.2.2.1 325 = .ok (.getfield 219, 3) := by decide +kernel
theorem d_X12_runs_328 : decode mX12_runs.2.2.1 328 = .ok (.ireturn, 1) := by decide +kernel
theorem ok_X12_runs : e_m mX12_runs 1 := ⟨tblG_in (inT9 (List.mem_of_getElem? (i := 53) rfl)) rfl, plainFor_of_name (by decide), rfl, ini_12, by decide +kernel, by decide⟩
theorem d_X12_fit_63 : decode mX12_fit.2.2.1 63 = .ok (.istore_n 3, 1) := by decide +kernel
theorem d_X12_fit_64 : decode mX12_fit.2.2.1 64 = .ok (.aload_n 0, 1) := by decide +kernel
theorem d_X12_fit_65 : decode mX12_fit.2.2.1 65 = .ok (.getfield 351, 3) := by decide +kernel
theorem d_X12_fit_68 : decode mX12_fit.2.2.1 68 = .ok (.iconst 3, 1) := by decide +kernel
theorem d_X12_fit_69 : decode mX12_fit.2.2.1 69 = .ok (.iload_n 2, 1) := by decide +kernel
theorem d_X12_fit_70 : decode mX12_fit.2.2.1 70 = .ok (.imul, 1) := by decide +kernel
theorem d_X12_fit_71 : decode mX12_fit.2.2.1 71 = .ok (.aload_n 0, 1) := by decide +kernel
theorem d_X12_fit_72 : decode mX12_fit.2.2.1 72 = .ok (.getfield 222, 3) := by decide +kernel
theorem d_X12_fit_75 : decode mX12_fit.2.2.1 75 = .ok (.iconst 4, 1) := by decide +kernel
theorem d_X12_fit_76 : decode mX12_fit.2.2.1 76 = .ok (.iload_n 1, 1) := by decide +kernel
theorem d_X12_fit_77 : decode mX12_fit.2.2.1 77 = .ok (.imul, 1) := by decide +kernel
theorem d_X12_fit_78 : decode mX12_fit.2.2.1 78 = .ok (.iconst 0, 1) := by decide +kernel
theorem d_X12_fit_79 : decode mX12_fit.2.2.1 79 = .ok (.iadd, 1) := by decide +kernel
theorem d_X12_fit_80 : decode mX12_fit.2.2.1 80 = .ok (.iaload, 1) := by decide +kernel
theorem d_X12_fit_81 : decode mX12_fit.2.2.1 81 = .ok (.iastore, 1) := by decide +kernel
theorem d_X12_fit_82 : decode mX12_fit.2.2.1 82 = .ok (.aload_n 0, 1) := by decide +kernel
theorem d_X12_fit_83 : decode mX12_fit.2.2.1 83 = .ok (.getfield 351, 3) := by decide +kernel
theorem d_X12_fit_86 : decode mX12_fit.2.2.1 86 = .ok (.iconst 3, 1) := by decide +kernel
theorem d_X12_fit_87 : decode mX12_fit.2.2.1 87 = .ok (.iload_n 2, 1) := by decide +kernel
theorem d_X12_fit_88 : decode mX12_fit.2.2.1 88 = .ok (.imul, 1) := by decide +kernel
theorem d_X12_fit_89 : decode mX12_fit.2.2.1 89 = .ok (.iconst 1, 1) := by decide +kernel
theorem d_X12_fit_90 : decode mX12_fit.2.2.1 90 = .ok (.iadd, 1) := by decide +kernel
theorem d_X12_fit_91 : decode mX12_fit.2.2.1 91 = .ok (.aload_n 0, 1) := by decide +kernel
theorem d_X12_fit_92 : decode mX12_fit.2.2.1 92 = .ok (.getfield 222, 3) := by decide +kernel
theorem d_X12_fit_95 : decode mX12_fit.2.2.1 95 = .ok (.iconst 4, 1) := by decide +kernel
theorem d_X12_fit_96 : decode mX12_fit.2.2.1 96 = .ok (.iload_n 1, 1) := by decide +kernel
theorem d_X12_fit_97 : decode mX12_fit.2.2.1 97 = .ok (.imul, 1) := by decide +kernel
theorem d_X12_fit_98 : decode mX12_fit.2.2.1 98 = .ok (.iconst 2, 1) := by decide +kernel
theorem d_X12_fit_99 : decode mX12_fit.2.2.1 99 = .ok (.iadd, 1) := by decide +kernel
theorem d_X12_fit_100 : decode mX12_fit.2.2.1 100 = .ok (.iaload, 1) := by decide +kernel
theorem d_X12_fit_101 : decode mX12_fit.2.2.1 101 = .ok (.iastore, 1) := by decide +kernel
theorem d_X12_fit_102 : decode mX12_fit.2.2.1 102 = .ok (.aload_n 0, 1) := by decide +kernel
theorem d_X12_fit_103 : decode mX12_fit.2.2.1 103 = .ok (.getfield 351, 3) := by decide +kernel
theorem d_X12_fit_106 : decode mX12_fit.2.2.1 106 = .ok (.iconst 3, 1) := by decide +kernel
theorem d_X12_fit_107 : decode mX12_fit.2.2.1 107 = .ok (.iload_n 2, 1) := by decide +kernel
theorem d_X12_fit_108 : decode mX12_fit.2.2.1 108 = .ok (.imul, 1) := by decide +kernel
theorem d_X12_fit_109 : decode mX12_fit.2.2.1 109 = .ok (.iconst 2, 1) := by decide +kernel
theorem d_X12_fit_110 : decode mX12_fit.2.2.1 110 = .ok (.iadd, 1) := by decide +kernel
theorem d_X12_fit_111 : decode mX12_fit.2.2.1 111 = .ok (.aload_n 0, 1) := by decide +kernel
theorem d_X12_fit_112 : decode mX12_fit.2.2.1 112 = .ok (.getfield 222, 3) := by decide +kernel
theorem d_X12_fit_115 : decode mX12_fit.2.2.1 115 = .ok (.iconst 4, 1) := by decide +kernel
theorem d_X12_fit_116 : decode mX12_fit.2.2.1 116 = .ok (.iload_n 1, 1) := by decide +kernel
theorem d_X12_fit_117 : decode mX12_fit.2.2.1 117 = .ok (.imul, 1) := by decide +kernel
theorem d_X12_fit_118 : decode mX12_fit.2.2.1 118 = .ok (.iconst 3, 1) := by decide +kernel
theorem d_X12_fit_119 : decode mX12_fit.2.2.1 119 = .ok (.iadd, 1) := by decide +kernel
theorem d_X12_fit_120 : decode mX12_fit.2.2.1 120 = .ok (.iaload, 1) := by decide +kernel
end
/-! 35.10 -/
section
theorem d_X12_fit_121 : decode mX12_fit.2.2.1 121 = .ok (.iastore, 1) := by decide +kernel
theorem d_X12_fit_122 : decode mX12_fit.2.2.1 122 = .ok (.aload_n 0, 1) := by decide +kernel
theorem d_X12_fit_123 : decode mX12_fit.2.2.1 123 = .ok (.getfield 348, 3) := by decide +kernel
theorem d_X12_fit_126 : decode mX12_fit.2.2.1 126 = .ok (.iload_n 2, 1) := by decide +kernel
theorem d_X12_fit_127 : decode mX12_fit.2.2.1 127 = .ok (.aload_n 0, 1) := by decide +kernel
theorem d_X12_fit_128 : decode mX12_fit.2.2.1 128 = .ok (.getfield 204, 3) := by decide +kernel
theorem d_X12_fit_131 : decode mX12_fit.2.2.1 131 = .ok (.aload_n 0, 1) := by decide +kernel
theorem d_X12_fit_132 : decode mX12_fit.2.2.1 132 = .ok (.getfield 351, 3) := by decide +kernel
theorem d_X12_fit_135 : decode mX12_fit.2.2.1 135 = .ok (.iconst 3, 1) := by decide +kernel
theorem d_X12_fit_136 : decode mX12_fit.2.2.1 136 = .ok (.iload_n 2, 1) := by decide +kernel
theorem d_X12_fit_137 : decode mX12_fit.2.2.1 137 = .ok (.imul, 1) := by decide +kernel
theorem d_X12_fit_138 : decode mX12_fit.2.2.1 138 = .ok (.iaload, 1) := by decide +kernel
theorem d_X12_fit_139 : decode mX12_fit.2.2.1 139 = .ok (.i2l, 1) := by decide +kernel
theorem d_X12_fit_140 : decode mX12_fit.2.2.1 140 = .ok (.aload_n 0, 1) := by decide +kernel
theorem d_X12_fit_141 : decode mX12_fit.2.2.1 141 = .ok (.iload_n 1, 1) := by decide +kernel
theorem d_X12_fit_142 : decode mX12_fit.2.2.1 142 = .ok (.iconst 0, 1) := by decide +kernel
theorem d_X12_fit_143 : decode mX12_fit.2.2.1 143 = .ok (.invokevirtual 565, 3) := by decide +kernel
theorem d_X12_fit_146 : decode mX12_fit.2.2.1 146 = .ok (.i2l, 1) := by decide +kernel
theorem d_X12_fit_147 : decode mX12_fit.2.2.1 147 = .ok (.lmul, 1) := by decide +kernel
theorem d_X12_fit_148 : decode mX12_fit.2.2.1 148 = .ok (.lsub, 1) := by decide +kernel
theorem d_X12_fit_149 : decode mX12_fit.2.2.1 149 = .ok (.aload_n 0, 1) := by decide +kernel
theorem d_X12_fit_150 : decode mX12_fit.2.2.1 150 = .ok (.getfield 351, 3) := by decide +kernel
theorem d_X12_fit_153 : decode mX12_fit.2.2.1 153 = .ok (.iconst 3, 1) := by decide +kernel
theorem d_X12_fit_154 : decode mX12_fit.2.2.1 154 = .ok (.iload_n 2, 1) := by decide +kernel
theorem d_X12_fit_155 : decode mX12_fit.2.2.1 155 = .ok (.imul, 1) := by decide +kernel
theorem d_X12_fit_156 : decode mX12_fit.2.2.1 156 = .ok (.iconst 1, 1) := by decide +kernel
theorem d_X12_fit_157 : decode mX12_fit.2.2.1 157 = .ok (.iadd, 1) := by decide +kernel
theorem d_X12_fit_158 : decode mX12_fit.2.2.1 158 = .ok (.iaload, 1) := by decide +kernel
theorem d_X12_fit_159 : decode mX12_fit.2.2.1 159 = .ok (.i2l, 1) := by decide +kernel
theorem d_X12_fit_160 : decode mX12_fit.2.2.1 160 = .ok (.aload_n 0, 1) := by decide +kernel
theorem d_X12_fit_161 : decode mX12_fit.2.2.1 161 = .ok (.iload_n 1, 1) := by decide +kernel
theorem d_X12_fit_162 : decode mX12_fit.2.2.1 162 = .ok (.iconst 3, 1) := by decide +kernel
theorem d_X12_fit_163 : decode mX12_fit.2.2.1 163 = .ok (.invokevirtual 565, 3) := by decide +kernel
theorem d_X12_fit_166 : decode mX12_fit.2.2.1 166 = .ok (.i2l, 1) := by decide +kernel
theorem d_X12_fit_167 : decode mX12_fit.2.2.1 167 = .ok (.lmul, 1) := by decide +kernel
theorem d_X12_fit_168 : decode mX12_fit.2.2.1 168 = .ok (.lsub, 1) := by decide +kernel
theorem d_X12_fit_169 : decode mX12_fit.2.2.1 169 = .ok (.aload_n 0, 1) := by decide +kernel
theorem d_X12_fit_170 : decode mX12_fit.2.2.1 170 = .ok (.getfield 351, 3) := by decide +kernel
theorem d_X12_fit_173 : decode mX12_fit.2.2.1 173 = .ok (.iconst 3, 1) := by decide +kernel
theorem d_X12_fit_174 : decode mX12_fit.2.2.1 174 = .ok (.iload_n 2, 1) := by decide +kernel
theorem d_X12_fit_175 : decode mX12_fit.2.2.1 175 = .ok (.imul, 1) := by decide +kernel
theorem d_X12_fit_176 : decode mX12_fit.2.2.1 176 = .ok (.iconst 2, 1) := by decide +kernel
theorem d_X12_fit_177 : decode mX12_fit.2.2.1 177 = .ok (.iadd, 1) := by decide +kernel
theorem d_X12_fit_178 : decode mX12_fit.2.2.1 178 = .ok (.iaload, 1) := by decide +kernel
theorem d_X12_fit_179 : decode mX12_fit.2.2.1 179 = .ok (.i2l, 1) := by decide +kernel
theorem d_X12_fit_180 : decode mX12_fit.2.2.1 180 = .ok (.aload_n 0, 1) := by decide +kernel
theorem d_X12_fit_181 : decode mX12_fit.2.2.1 181 = .ok (.iload_n 1, 1) := by decide +kernel
theorem d_X12_fit_182 : decode mX12_fit.2.2.1 182 = .ok (.iconst 4, 1) := by decide +kernel
theorem d_X12_fit_183 : decode mX12_fit.2.2.1 183 = .ok (.invokevirtual 565, 3) := by decide +kernel
theorem d_X12_fit_186 : decode mX12_fit.2.2.1 186 = .ok (.i2l, 1) := by decide +kernel
theorem d_X12_fit_187 : decode mX12_fit.2.2.1 187 = .ok (.lmul, 1) := by decide +kernel
theorem d_X12_fit_188 : decode mX12_fit.2.2.1 188 = .ok (.lsub, 1) := by decide +kernel
theorem d_X12_fit_189 : decode mX12_fit.2.2.1 189 = .ok (.lastore, 1) := by decide +kernel
theorem d_X12_fit_190 : decode mX12_fit.2.2.1 190 = .ok (.iinc 2 1, 3) := by decide +kernel
theorem d_X12_fit_193 : decode mX12_fit.2.2.1 193 = .ok (.goto (-174), 3) := by decide +kernel
theorem d_X12_fit_196 : decode mX12_fit.2.2.1 196 = .ok (.lconst 0, 1) := by decide +kernel
theorem d_X12_fit_197 : decode mX12_fit.2.2.1 197 = .ok (.lstore_n 2, 1) := by decide +kernel
theorem d_X12_fit_198 : decode mX12_fit.2.2.1 198 = .ok (.aload_n 0, 1) := by decide +kernel
theorem d_X12_fit_199 : decode mX12_fit.2.2.1 199 = .ok (.getfield 345, 3) := by decide +kernel
theorem d_X12_fit_202 : decode mX12_fit.2.2.1 202 = .ok (.iconst 3, 1) := by decide +kernel
theorem d_X12_fit_203 : decode mX12_fit.2.2.1 203 = .ok (.iconst 0, 1) := by decide +kernel
theorem d_X12_fit_204 : decode mX12_fit.2.2.1 204 = .ok (.iastore, 1) := by decide +kernel
theorem d_X12_fit_205 : decode mX12_fit.2.2.1 205 = .ok (.iconst 0, 1) := by decide +kernel
theorem d_X12_fit_206 : decode mX12_fit.2.2.1 206 = .ok (.istore 4, 2) := by decide +kernel
theorem d_X12_fit_208 : decode mX12_fit.2.2.1 208 = .ok (.iload 4, 2) := by decide +kernel
theorem d_X12_fit_210 : decode mX12_fit.2.2.1 210 = .ok (.sipush 4096, 3) := by decide +kernel
theorem d_X12_fit_213 : decode mX12_fit.2.2.1 213 = .ok (.if_icmp .ge 218, 3) := by decide +kernel
theorem d_X12_fit_216 : decode mX12_fit.2.2.1 216 = .ok (.lconst 0, 1) := by decide +kernel
theorem d_X12_fit_217 : decode mX12_fit.2.2.1 217 = .ok (.lstore 5, 2) := by decide +kernel
theorem d_X12_fit_219 : decode mX12_fit.2.2.1 219 = .ok (.iconst 0, 1) := by decide +kernel
theorem d_X12_fit_220 : decode mX12_fit.2.2.1 220 = .ok (.istore 7, 2) := by decide +kernel
theorem d_X12_fit_222 : decode mX12_fit.2.2.1 222 = .ok (.iload 7, 2) := by decide +kernel
theorem d_X12_fit_224 : decode mX12_fit.2.2.1 224 = .ok (.aload_n 0, 1) := by decide +kernel
theorem d_X12_fit_225 : decode mX12_fit.2.2.1 225 = .ok (.getfield 333, 3) := by decide +kernel
theorem d_X12_fit_228 : decode mX12_fit.2.2.1 228 = .ok (.if_icmp .ge 107, 3) := by decide +kernel
theorem d_X12_fit_231 : decode mX12_fit.2.2.1 231 = .ok (.aload_n 0, 1) := by decide +kernel
theorem d_X12_fit_232 : decode mX12_fit.2.2.1 232 = .ok (.getfield 348, 3) := by decide +kernel
theorem d_X12_fit_235 : decode mX12_fit.2.2.1 235 = .ok (.iload 7, 2) := by decide +kernel
theorem d_X12_fit_237 : decode mX12_fit.2.2.1 237 = .ok (.laload, 1) := by decide +kernel
theorem d_X12_fit_238 : decode mX12_fit.2.2.1 238 = .ok (.aload_n 0, 1) := by decide +kernel
theorem d_X12_fit_239 : decode mX12_fit.2.2.1 239 = .ok (.getfield 351, 3) := by decide +kernel
theorem d_X12_fit_242 : decode mX12_fit.2.2.1 242 = .ok (.iconst 3, 1) := by decide +kernel
theorem d_X12_fit_243 : decode mX12_fit.2.2.1 243 = .ok (.iload 7, 2) := by decide +kernel
theorem d_X12_fit_245 : decode mX12_fit.2.2.1 245 = .ok (.imul, 1) := by decide +kernel
theorem d_X12_fit_246 : decode mX12_fit.2.2.1 246 = .ok (.iaload, 1) := by decide +kernel
theorem d_X12_fit_247 : decode mX12_fit.2.2.1 247 = .ok (.i2l, 1) := by decide +kernel
theorem d_X12_fit_248 : decode mX12_fit.2.2.1 248 = .ok (.iload 4, 2) := by decide +kernel
theorem d_X12_fit_250 : decode mX12_fit.2.2.1 250 = .ok (.bipush 8, 2) := by decide +kernel
theorem d_X12_fit_252 : decode mX12_fit.2.2.1 252 = .ok (.ishr, 1) := by decide +kernel
theorem d_X12_fit_253 : decode mX12_fit.2.2.1 253 = .ok (.i2l, 1) := by decide +kernel
theorem d_X12_fit_254 : decode mX12_fit.2.2.1 254 = .ok (.lmul, 1) := by decide +kernel
theorem d_X12_fit_255 : decode mX12_fit.2.2.1 255 = .ok (.ladd, 1) := by decide +kernel
theorem d_X12_fit_256 : decode mX12_fit.2.2.1 256 = .ok (.aload_n 0, 1) := by decide +kernel
theorem d_X12_fit_257 : decode mX12_fit.2.2.1 257 = .ok (.getfield 351, 3) := by decide +kernel
theorem d_X12_fit_260 : decode mX12_fit.2.2.1 260 = .ok (.iconst 3, 1) := by decide +kernel
theorem d_X12_fit_261 : decode mX12_fit.2.2.1 261 = .ok (.iload 7, 2) := by decide +kernel
theorem d_X12_fit_263 : decode mX12_fit.2.2.1 263 = .ok (.imul, 1) := by decide +kernel
theorem d_X12_fit_264 : decode mX12_fit.2.2.1 264 = .ok (.iconst 1, 1) := by decide +kernel
theorem d_X12_fit_265 : decode mX12_fit.2.2.1 265 = .ok (.iadd, 1) := by decide +kernel
theorem d_X12_fit_266 : decode mX12_fit.2.2.1 266 = .ok (.iaload, 1) := by decide +kernel
theorem d_X12_fit_267 : decode mX12_fit.2.2.1 267 = .ok (.i2l, 1) := by decide +kernel
theorem d_X12_fit_268 : decode mX12_fit.2.2.1 268 = .ok (.iload 4, 2) := by decide +kernel
theorem d_X12_fit_270 : decode mX12_fit.2.2.1 270 = .ok (.iconst 4, 1) := by decide +kernel
theorem d_X12_fit_271 : decode mX12_fit.2.2.1 271 = .ok (.ishr, 1) := by decide +kernel
theorem d_X12_fit_272 : decode mX12_fit.2.2.1 272 = .ok (.bipush 15, 2) := by decide +kernel
theorem d_X12_fit_274 : decode mX12_fit.2.2.1 274 = .ok (.iand, 1) := by decide +kernel
theorem d_X12_fit_275 : decode mX12_fit.2.2.1 275 = .ok (.i2l, 1) := by decide +kernel
theorem d_X12_fit_276 : decode mX12_fit.2.2.1 276 = .ok (.lmul, 1) := by decide +kernel
theorem d_X12_fit_277 : decode mX12_fit.2.2.1 277 = .ok (.ladd, 1) := by decide +kernel
theorem d_X12_fit_278 : decode mX12_fit.2.2.1 278 = .ok (.aload_n 0, 1) := by decide +kernel
theorem d_X12_fit_279 : decode mX12_fit.2.2.1 279 = .ok (.getfield 351, 3) := by decide +kernel
theorem d_X12_fit_282 : decode mX12_fit.2.2.1 282 = .ok (.iconst 3, 1) := by decide +kernel
theorem d_X12_fit_283 : decode mX12_fit.2.2.1 283 = .ok (.iload 7, 2) := by decide +kernel
theorem d_X12_fit_285 : decode mX12_fit.2.2.1 285 = .ok (.imul, 1) := by decide +kernel
theorem d_X12_fit_286 : decode mX12_fit.2.2.1 286 = .ok (.iconst 2, 1) := by decide +kernel
theorem d_X12_fit_287 : decode mX12_fit.2.2.1 287 = .ok (.iadd, 1) := by decide +kernel
theorem d_X12_fit_288 : decode mX12_fit.2.2.1 288 = .ok (.iaload, 1) := by decide +kernel
theorem d_X12_fit_289 : decode mX12_fit.2.2.1 289 = .ok (.i2l, 1) := by decide +kernel
theorem d_X12_fit_290 : decode mX12_fit.2.2.1 290 = .ok (.iload 4, 2) := by decide +kernel
theorem d_X12_fit_292 : decode mX12_fit.2.2.1 292 = .ok (.bipush 15, 2) := by decide +kernel
theorem d_X12_fit_294 : decode mX12_fit.2.2.1 294 = .ok (.iand, 1) := by decide +kernel
theorem d_X12_fit_295 : decode mX12_fit.2.2.1 295 = .ok (.i2l, 1) := by decide +kernel
theorem d_X12_fit_296 : decode mX12_fit.2.2.1 296 = .ok (.lmul, 1) := by decide +kernel
theorem d_X12_fit_297 : decode mX12_fit.2.2.1 297 = .ok (.ladd, 1) := by decide +kernel
theorem d_X12_fit_298 : decode mX12_fit.2.2.1 298 = .ok (.aload_n 0, 1) := by decide +kernel
theorem d_X12_fit_299 : decode mX12_fit.2.2.1 299 = .ok (.getfield 339, 3) := by decide +kernel
theorem d_X12_fit_302 : decode mX12_fit.2.2.1 302 = .ok (.iload 7, 2) := by decide +kernel
theorem d_X12_fit_304 : decode mX12_fit.2.2.1 304 = .ok (.iaload, 1) := by decide +kernel
theorem d_X12_fit_305 : decode mX12_fit.2.2.1 305 = .ok (.i2l, 1) := by decide +kernel
theorem d_X12_fit_306 : decode mX12_fit.2.2.1 306 = .ok (.lsub, 1) := by decide +kernel
theorem d_X12_fit_307 : decode mX12_fit.2.2.1 307 = .ok (.lstore 8, 2) := by decide +kernel
theorem d_X12_fit_309 : decode mX12_fit.2.2.1 309 = .ok (.lload 5, 2) := by decide +kernel
theorem d_X12_fit_311 : decode mX12_fit.2.2.1 311 = .ok (.lload 8, 2) := by decide +kernel
theorem d_X12_fit_313 : decode mX12_fit.2.2.1 313 = .ok (.lconst 0, 1) := by decide +kernel
theorem d_X12_fit_314 : decode mX12_fit.2.2.1 314 = .ok (.lcmp, 1) := by decide +kernel
theorem d_X12_fit_315 : decode mX12_fit.2.2.1 315 = .ok (.ifCond .ge 9, 3) := by decide +kernel
theorem d_X12_fit_324 : decode mX12_fit.2.2.1 324 = .ok (.lload 8, 2) := by decide +kernel
theorem d_X12_fit_318 : decode mX12_fit.2.2.1 318 = .ok (.lload 8, 2) := by decide +kernel
theorem d_X12_fit_320 : decode mX12_fit.2.2.1 320 = .ok (.lneg, 1) := by decide +kernel
theorem d_X12_fit_321 : decode mX12_fit.2.2.1 321 = .ok (.goto 5, 3) := by decide +kernel
theorem d_X12_fit_326 : decode mX12_fit.2.2.1 326 = .ok (.ladd, 1) := by decide +kernel
theorem d_X12_fit_327 : decode mX12_fit.2.2.1 327 = .ok (.lstore 5, 2) := by decide +kernel
theorem d_X12_fit_329 : decode mX12_fit.2.2.1 329 = .ok (.iinc 7 1, 3) := by decide +kernel
theorem d_X12_fit_332 : decode mX12_fit.2.2.1 332 = .ok (.goto (-110), 3) := by decide +kernel
theorem d_X12_fit_335 : decode mX12_fit.2.2.1 335 = .ok (.aload_n 0, 1) := by decide +kernel
theorem d_X12_fit_336 : decode mX12_fit.2.2.1 336 = .ok (.getfield 345, 3) := by decide +kernel
theorem d_X12_fit_339 : decode mX12_fit.2.2.1 339 = .ok (.iconst 3, 1) := by decide +kernel
theorem d_X12_fit_340 : decode mX12_fit.2.2.1 340 = .ok (.iaload, 1) := by decide +kernel
theorem d_X12_fit_341 : decode mX12_fit.2.2.1 341 = .ok (.ifCond .le 20, 3) := by decide +kernel
theorem d_X12_fit_361 : decode mX12_fit.2.2.1 361 = .ok (.aload_n 0, 1) := by decide +kernel
theorem d_X12_fit_362 : decode mX12_fit.2.2.1 362 = .ok (.getfield 345, 3) := by decide +kernel
theorem d_X12_fit_365 : decode mX12_fit.2.2.1 365 = .ok (.iconst 3, 1) := by decide +kernel
theorem d_X12_fit_366 : decode mX12_fit.2.2.1 366 = .ok (.iaload, 1) := by decide +kernel
theorem d_X12_fit_367 : decode mX12_fit.2.2.1 367 = .ok (.ifCond .le 13, 3) := by decide +kernel
theorem d_X12_fit_380 : decode mX12_fit.2.2.1 380 = .ok (.lload 5, 2) := by decide +kernel
theorem d_X12_fit_382 : decode mX12_fit.2.2.1 382 = .ok (.lstore_n 2, 1) := by decide +kernel
theorem d_X12_fit_383 : decode mX12_fit.2.2.1 383 = .ok (.aload_n 0, 1) := by decide +kernel
theorem d_X12_fit_384 : decode mX12_fit.2.2.1 384 = .ok (.getfield 345, 3) := by decide +kernel
theorem d_X12_fit_387 : decode mX12_fit.2.2.1 387 = .ok (.iconst 0, 1) := by decide +kernel
theorem d_X12_fit_388 : decode mX12_fit.2.2.1 388 = .ok (.iload 4, 2) := by decide +kernel
theorem d_X12_fit_390 : decode mX12_fit.2.2.1 390 = .ok (.bipush 8, 2) := by decide +kernel
theorem d_X12_fit_392 : decode mX12_fit.2.2.1 392 = .ok (.ishr, 1) := by decide +kernel
theorem d_X12_fit_393 : decode mX12_fit.2.2.1 393 = .ok (.iastore, 1) := by decide +kernel
theorem d_X12_fit_394 : decode mX12_fit.2.2.1 394 = .ok (.aload_n 0, 1) := by decide +kernel
theorem d_X12_fit_395 : decode mX12_fit.2.2.1 395 = .ok (.getfield 345, 3) := by decide +kernel
theorem d_X12_fit_398 : decode mX12_fit.2.2.1 398 = .ok (.iconst 1, 1) := by decide +kernel
theorem d_X12_fit_399 : decode mX12_fit.2.2.1 399 = .ok (.iload 4, 2) := by decide +kernel
theorem d_X12_fit_401 : decode mX12_fit.2.2.1 401 = .ok (.iconst 4, 1) := by decide +kernel
theorem d_X12_fit_402 : decode mX12_fit.2.2.1 402 = .ok (.ishr, 1) := by decide +kernel
theorem d_X12_fit_403 : decode mX12_fit.2.2.1 403 = .ok (.bipush 15, 2) := by decide +kernel
theorem d_X12_fit_405 : decode mX12_fit.2.2.1 405 = .ok (.iand, 1) := by decide +kernel
theorem d_X12_fit_406 : decode mX12_fit.2.2.1 406 = .ok (.iastore, 1) := by decide +kernel
theorem d_X12_fit_407 : decode mX12_fit.2.2.1 407 = .ok (.aload_n 0, 1) := by decide +kernel
theorem d_X12_fit_408 : decode mX12_fit.2.2.1 408 = .ok (.getfield 345, 3) := by decide +kernel
theorem d_X12_fit_411 : decode mX12_fit.2.2.1 411 = .ok (.iconst 2, 1) := by decide +kernel
theorem d_X12_fit_412 : decode mX12_fit.2.2.1 412 = .ok (.iload 4, 2) := by decide +kernel
theorem d_X12_fit_414 : decode mX12_fit.2.2.1 414 = .ok (.bipush 15, 2) := by decide +kernel
theorem d_X12_fit_416 : decode mX12_fit.2.2.1 416 = .ok (.iand, 1) := by decide +kernel
theorem d_X12_fit_417 : decode mX12_fit.2.2.1 417 = .ok (.iastore, 1) := by decide +kernel
theorem d_X12_fit_418 : decode mX12_fit.2.2.1 418 = .ok (.aload_n 0, 1) := by decide +kernel
theorem d_X12_fit_419 : decode mX12_fit.2.2.1 419 = .ok (.getfield 345, 3) := by decide +kernel
theorem d_X12_fit_422 : decode mX12_fit.2.2.1 422 = .ok (.iconst 3, 1) := by decide +kernel
theorem d_X12_fit_423 : decode mX12_fit.2.2.1 423 = .ok (.iconst 1, 1) := by decide +kernel
theorem d_X12_fit_424 : decode mX12_fit.2.2.1 424 = .ok (.iastore, 1) := by decide +kernel
theorem d_X12_fit_425 : decode mX12_fit.2.2.1 425 = .ok (.iinc 4 1, 3) := by decide +kernel
theorem d_X12_fit_428 : decode mX12_fit.2.2.1 428 = .ok (.goto (-220), 3) := by decide +kernel
theorem d_X12_fit_344 : decode mX12_fit.2.2.1 344 = .ok (.lload 5, 2) := by decide +kernel
theorem d_X12_fit_346 : decode mX12_fit.2.2.1 346 = .ok (.lload_n 2, 1) := by decide +kernel
theorem d_X12_fit_347 : decode mX12_fit.2.2.1 347 = .ok (.lcmp, 1) := by decide +kernel
theorem d_X12_fit_348 : decode mX12_fit.2.2.1 348 = .ok (.ifCond .ne 13, 3) := by decide +kernel
theorem d_X12_fit_351 : decode mX12_fit.2.2.1 351 = .ok (.aload_n 0, 1) := by decide +kernel
theorem d_X12_fit_352 : decode mX12_fit.2.2.1 352 = .ok (.getfield 345, 3) := by decide +kernel
theorem d_X12_fit_355 : decode mX12_fit.2.2.1 355 = .ok (.iconst 3, 1) := by decide +kernel
theorem d_X12_fit_356 : decode mX12_fit.2.2.1 356 = .ok (.dup2, 1) := by decide +kernel
theorem d_X12_fit_357 : decode mX12_fit.2.2.1 357 = .ok (.iaload, 1) := by decide +kernel
theorem d_X12_fit_358 : decode mX12_fit.2.2.1 358 = .ok (.iconst 1, 1) := by decide +kernel
theorem d_X12_fit_359 : decode mX12_fit.2.2.1 359 = .ok (.iadd, 1) := by decide +kernel
theorem d_X12_fit_360 : decode mX12_fit.2.2.1 360 = .ok (.iastore, 1) := by decide +kernel
theorem d_X12_fit_370 : decode mX12_fit.2.2.1 370 = .ok (.lload 5, 2) := by decide +kernel
theorem d_X12_fit_372 : decode mX12_fit.2.2.1 372 = .ok (.lload_n 2, 1) := by decide +kernel
theorem d_X12_fit_373 : decode mX12_fit.2.2.1 373 = .ok (.lcmp, 1) := by decide +kernel
theorem d_X12_fit_374 : decode mX12_fit.2.2.1 374 = .ok (.ifCond .lt 6, 3) := by decide +kernel
theorem d_X12_fit_377 : decode mX12_fit.2.2.1 377 = .ok (.goto 48, 3) := by decide +kernel
theorem d_X12_fit_431 : decode mX12_fit.2.2.1 431 = .ok (.aload_n 0, 1) := by decide +kernel
theorem d_X12_fit_432 : decode mX12_fit.2.2.1 432 = .ok (.iconst 1, 1) := by decide +kernel
theorem d_X12_fit_433 : decode mX12_fit.2.2.1 433 = .ok (.putfield 342, 3) := by decide +kernel
theorem d_X12_fit_436 : decode mX12_fit.2.2.1 436 = .ok (.lload_n 2, 1) := by decide +kernel
theorem d_X12_fit_437 : decode mX12_fit.2.2.1 437 = .ok (.l2i, 1) := by decide +kernel
theorem d_X12_fit_438 : decode mX12_fit.2.2.1 438 = .ok (.ireturn, 1) := by decide +kernel
def mX12_fitted : MD := (12, yX12_fitted, cX12_fitted, 2, some .int)
theorem d_X12_fitted_0 : decode mX12_fitted.2.2.1 0 = .ok (.aload_n 0, 1) := by decide +kernel
theorem d_X12_fitted_1 : decode mX12_fitted.2.2.1 1 = .ok (.getfield 342, 3) := by decide +kernel
theorem d_X12_fitted_4 : decode mX12_fitted.2.2.1 4 = .ok (.ifCond .eq 21, 3) := by decide +kernel
theorem d_X12_fitted_25 : decode mX12_fitted.2.2.1 25 = .ok (.iconst (-1), 1) := by decide +kernel
theorem d_X12_fitted_26 : decode mX12_fitted.2.2.1 26 = .ok (.ireturn, 1) := by decide +kernel
theorem d_X12_fitted_7 : decode mX12_fitted.2.2.1 7 = .ok (.iload_n 1, 1) := by decide +kernel
theorem d_X12_fitted_8 : decode mX12_fitted.2.2.1 8 = .ok (.iconst 0, 1) := by decide +kernel
theorem d_X12_fitted_9 : decode mX12_fitted.2.2.1 9 = .ok (.iconst 3, 1) := by decide +kernel
theorem d_X12_fitted_10 : decode mX12_fitted.2.2.1 10 = .ok (.invokestatic 467, 3) := by decide +kernel
theorem d_X12_fitted_13 : decode mX12_fitted.2.2.1 13 = .ok (.ifCond .eq 12, 3) := by decide +kernel
theorem d_X12_fitted_16 : decode mX12_fitted.2.2.1 16 = .ok (.aload_n 0, 1) := by decide +kernel
theorem d_X12_fitted_17 : decode mX12_fitted.2.2.1 17 = .ok (.getfield 345, 3) := by decide +kernel
theorem d_X12_fitted_20 : decode mX12_fitted.2.2.1 20 = .ok (.iload_n 1, 1) := by decide +kernel
theorem d_X12_fitted_21 : decode mX12_fitted.2.2.1 21 = .ok (.iaload, 1) := by decide +kernel
theorem d_X12_fitted_22 : decode mX12_fitted.2.2.1 22 = .ok (.goto 4, 3) := by decide +kernel
def mX12_ask : MD := (12, yX12_ask, cX12_ask, 4, some .int)
theorem d_X12_ask_0 : decode mX12_ask.2.2.1 0 = .ok (.iload_n 1, 1) := by decide +kernel
theorem d_X12_ask_1 : decode mX12_ask.2.2.1 1 = .ok (.iconst 0, 1) := by decide +kernel
theorem d_X12_ask_2 : decode mX12_ask.2.2.1 2 = .ok (.sipush 200, 3) := by decide +kernel
theorem d_X12_ask_5 : decode mX12_ask.2.2.1 5 = .ok (.invokestatic 467, 3) := by decide +kernel
end
/-! 35.11 -/
section
theorem d_X12_ask_8 : decode mX12_ask.2.2.1 8 = .ok (.ifCond .eq 31, 3) := by decide +kernel
theorem d_X12_ask_39 : decode mX12_ask.2.2.1 39 = .ok (.iconst (-1), 1) := by decide +kernel
theorem d_X12_ask_40 : decode mX12_ask.2.2.1 40 = .ok (.ireturn, 1) := by decide +kernel
theorem d_X12_ask_11 : decode mX12_ask.2.2.1 11 = .ok (.iload_n 2, 1) := by decide +kernel
theorem d_X12_ask_12 : decode mX12_ask.2.2.1 12 = .ok (.iconst 1, 1) := by decide +kernel
theorem d_X12_ask_13 : decode mX12_ask.2.2.1 13 = .ok (.bipush 20, 2) := by decide +kernel
theorem d_X12_ask_15 : decode mX12_ask.2.2.1 15 = .ok (.invokestatic 467, 3) := by decide +kernel
theorem d_X12_ask_18 : decode mX12_ask.2.2.1 18 = .ok (.ifCond .eq 21, 3) := by decide +kernel
theorem d_X12_ask_21 : decode mX12_ask.2.2.1 21 = .ok (.iload_n 3, 1) := by decide +kernel
theorem d_X12_ask_22 : decode mX12_ask.2.2.1 22 = .ok (.iconst 0, 1) := by decide +kernel
theorem d_X12_ask_23 : decode mX12_ask.2.2.1 23 = .ok (.iconst 5, 1) := by decide +kernel
theorem d_X12_ask_24 : decode mX12_ask.2.2.1 24 = .ok (.invokestatic 467, 3) := by decide +kernel
theorem d_X12_ask_27 : decode mX12_ask.2.2.1 27 = .ok (.ifCond .eq 12, 3) := by decide +kernel
theorem d_X12_ask_30 : decode mX12_ask.2.2.1 30 = .ok (.aload_n 0, 1) := by decide +kernel
theorem d_X12_ask_31 : decode mX12_ask.2.2.1 31 = .ok (.getfield 354, 3) := by decide +kernel
theorem d_X12_ask_34 : decode mX12_ask.2.2.1 34 = .ok (.bipush 6, 2) := by decide +kernel
theorem d_X12_ask_36 : decode mX12_ask.2.2.1 36 = .ok (.if_icmp .ne 5, 3) := by decide +kernel
theorem d_X12_ask_41 : decode mX12_ask.2.2.1 41 = .ok (.aload_n 0, 1) := by decide +kernel
theorem d_X12_ask_42 : decode mX12_ask.2.2.1 42 = .ok (.getfield 357, 3) := by decide +kernel
theorem d_X12_ask_45 : decode mX12_ask.2.2.1 45 = .ok (.aload_n 0, 1) := by decide +kernel
theorem d_X12_ask_46 : decode mX12_ask.2.2.1 46 = .ok (.getfield 354, 3) := by decide +kernel
theorem d_X12_ask_49 : decode mX12_ask.2.2.1 49 = .ok (.iload_n 1, 1) := by decide +kernel
theorem d_X12_ask_50 : decode mX12_ask.2.2.1 50 = .ok (.iastore, 1) := by decide +kernel
theorem d_X12_ask_51 : decode mX12_ask.2.2.1 51 = .ok (.aload_n 0, 1) := by decide +kernel
theorem d_X12_ask_52 : decode mX12_ask.2.2.1 52 = .ok (.getfield 360, 3) := by decide +kernel
theorem d_X12_ask_55 : decode mX12_ask.2.2.1 55 = .ok (.aload_n 0, 1) := by decide +kernel
theorem d_X12_ask_56 : decode mX12_ask.2.2.1 56 = .ok (.getfield 354, 3) := by decide +kernel
theorem d_X12_ask_59 : decode mX12_ask.2.2.1 59 = .ok (.iload_n 2, 1) := by decide +kernel
theorem d_X12_ask_60 : decode mX12_ask.2.2.1 60 = .ok (.iastore, 1) := by decide +kernel
theorem d_X12_ask_61 : decode mX12_ask.2.2.1 61 = .ok (.aload_n 0, 1) := by decide +kernel
theorem d_X12_ask_62 : decode mX12_ask.2.2.1 62 = .ok (.getfield 363, 3) := by decide +kernel
theorem d_X12_ask_65 : decode mX12_ask.2.2.1 65 = .ok (.aload_n 0, 1) := by decide +kernel
theorem d_X12_ask_66 : decode mX12_ask.2.2.1 66 = .ok (.getfield 354, 3) := by decide +kernel
theorem d_X12_ask_69 : decode mX12_ask.2.2.1 69 = .ok (.iload_n 3, 1) := by decide +kernel
theorem d_X12_ask_70 : decode mX12_ask.2.2.1 70 = .ok (.iastore, 1) := by decide +kernel
theorem d_X12_ask_71 : decode mX12_ask.2.2.1 71 = .ok (.aload_n 0, 1) := by decide +kernel
theorem d_X12_ask_72 : decode mX12_ask.2.2.1 72 = .ok (.dup, 1) := by decide +kernel
theorem d_X12_ask_73 : decode mX12_ask.2.2.1 73 = .ok (.getfield 354, 3) := by decide +kernel
theorem d_X12_ask_76 : decode mX12_ask.2.2.1 76 = .ok (.iconst 1, 1) := by decide +kernel
theorem d_X12_ask_77 : decode mX12_ask.2.2.1 77 = .ok (.iadd, 1) := by decide +kernel
theorem d_X12_ask_78 : decode mX12_ask.2.2.1 78 = .ok (.putfield 354, 3) := by decide +kernel
theorem d_X12_ask_81 : decode mX12_ask.2.2.1 81 = .ok (.aload_n 0, 1) := by decide +kernel
theorem d_X12_ask_82 : decode mX12_ask.2.2.1 82 = .ok (.getfield 354, 3) := by decide +kernel
theorem d_X12_ask_85 : decode mX12_ask.2.2.1 85 = .ok (.ireturn, 1) := by decide +kernel
def mX12_forget : MD := (12, yX12_forget, cX12_forget, 2, some .int)
theorem d_X12_forget_0 : decode mX12_forget.2.2.1 0 = .ok (.aload_n 0, 1) := by decide +kernel
theorem d_X12_forget_1 : decode mX12_forget.2.2.1 1 = .ok (.getfield 354, 3) := by decide +kernel
theorem d_X12_forget_4 : decode mX12_forget.2.2.1 4 = .ok (.istore_n 1, 1) := by decide +kernel
theorem d_X12_forget_5 : decode mX12_forget.2.2.1 5 = .ok (.aload_n 0, 1) := by decide +kernel
theorem d_X12_forget_6 : decode mX12_forget.2.2.1 6 = .ok (.iconst 0, 1) := by decide +kernel
theorem d_X12_forget_7 : decode mX12_forget.2.2.1 7 = .ok (.putfield 354, 3) := by decide +kernel
theorem d_X12_forget_10 : decode mX12_forget.2.2.1 10 = .ok (.iload_n 1, 1) := by decide +kernel
theorem d_X12_forget_11 : decode mX12_forget.2.2.1 11 = .ok (.ireturn, 1) := by decide +kernel
def mX12_later : MD := (12, yX12_later, cX12_later, 2, some .int)
theorem d_X12_later_0 : decode mX12_later.2.2.1 0 = .ok (.iload_n 1, 1) := by decide +kernel
theorem d_X12_later_1 : decode mX12_later.2.2.1 1 = .ok (.ifCond .lt 20, 3) := by decide +kernel
theorem d_X12_later_21 : decode mX12_later.2.2.1 21 = .ok (.iconst (-1), 1) := by decide +kernel
theorem d_X12_later_22 : decode mX12_later.2.2.1 22 = .ok (.ireturn, 1) := by decide +kernel
theorem d_X12_later_4 : decode mX12_later.2.2.1 4 = .ok (.iload_n 1, 1) := by decide +kernel
theorem d_X12_later_5 : decode mX12_later.2.2.1 5 = .ok (.aload_n 0, 1) := by decide +kernel
theorem d_X12_later_6 : decode mX12_later.2.2.1 6 = .ok (.getfield 366, 3) := by decide +kernel
theorem d_X12_later_9 : decode mX12_later.2.2.1 9 = .ok (.if_icmp .ge 12, 3) := by decide +kernel
theorem d_X12_later_12 : decode mX12_later.2.2.1 12 = .ok (.aload_n 0, 1) := by decide +kernel
theorem d_X12_later_13 : decode mX12_later.2.2.1 13 = .ok (.getfield 369, 3) := by decide +kernel
theorem d_X12_later_16 : decode mX12_later.2.2.1 16 = .ok (.iload_n 1, 1) := by decide +kernel
theorem d_X12_later_17 : decode mX12_later.2.2.1 17 = .ok (.iaload, 1) := by decide +kernel
theorem d_X12_later_18 : decode mX12_later.2.2.1 18 = .ok (.goto 4, 3) := by decide +kernel
def mX12_lasts : MD := (12, yX12_lasts, cX12_lasts, 7, some .int)
theorem d_X12_lasts_0 : decode mX12_lasts.2.2.1 0 = .ok (.aload_n 0, 1) := by decide +kernel
theorem d_X12_lasts_1 : decode mX12_lasts.2.2.1 1 = .ok (.getfield 270, 3) := by decide +kernel
theorem d_X12_lasts_4 : decode mX12_lasts.2.2.1 4 = .ok (.ifCond .eq 36, 3) := by decide +kernel
theorem d_X12_lasts_40 : decode mX12_lasts.2.2.1 40 = .ok (.iconst (-1), 1) := by decide +kernel
theorem d_X12_lasts_41 : decode mX12_lasts.2.2.1 41 = .ok (.ireturn, 1) := by decide +kernel
theorem d_X12_lasts_7 : decode mX12_lasts.2.2.1 7 = .ok (.iload_n 1, 1) := by decide +kernel
theorem d_X12_lasts_8 : decode mX12_lasts.2.2.1 8 = .ok (.iconst 0, 1) := by decide +kernel
theorem d_X12_lasts_9 : decode mX12_lasts.2.2.1 9 = .ok (.ldc_w 696, 3) := by decide +kernel
theorem k_12_696 : Jvm.Cond.constant (e_cn 12) 696 (Int32.ofInt 1000000000) ∈ tblG := tblG_in (inT10 (List.mem_of_getElem? (i := 37) rfl)) rfl
theorem d_X12_lasts_12 : decode mX12_lasts.2.2.1 12 = .ok (.invokestatic 467, 3) := by decide +kernel
theorem d_X12_lasts_15 : decode mX12_lasts.2.2.1 15 = .ok (.ifCond .eq 25, 3) := by decide +kernel
theorem d_X12_lasts_18 : decode mX12_lasts.2.2.1 18 = .ok (.iload_n 2, 1) := by decide +kernel
theorem d_X12_lasts_19 : decode mX12_lasts.2.2.1 19 = .ok (.iconst 0, 1) := by decide +kernel
theorem d_X12_lasts_20 : decode mX12_lasts.2.2.1 20 = .ok (.sipush 1000, 3) := by decide +kernel
theorem d_X12_lasts_23 : decode mX12_lasts.2.2.1 23 = .ok (.invokestatic 467, 3) := by decide +kernel
theorem d_X12_lasts_26 : decode mX12_lasts.2.2.1 26 = .ok (.ifCond .eq 14, 3) := by decide +kernel
theorem d_X12_lasts_29 : decode mX12_lasts.2.2.1 29 = .ok (.iload_n 3, 1) := by decide +kernel
theorem d_X12_lasts_30 : decode mX12_lasts.2.2.1 30 = .ok (.iconst 0, 1) := by decide +kernel
theorem d_X12_lasts_31 : decode mX12_lasts.2.2.1 31 = .ok (.ldc_w 697, 3) := by decide +kernel
theorem k_12_697 : Jvm.Cond.constant (e_cn 12) 697 (Int32.ofInt 100000) ∈ tblG := tblG_in (inT10 (List.mem_of_getElem? (i := 38) rfl)) rfl
theorem d_X12_lasts_34 : decode mX12_lasts.2.2.1 34 = .ok (.invokestatic 467, 3) := by decide +kernel
theorem d_X12_lasts_37 : decode mX12_lasts.2.2.1 37 = .ok (.ifCond .ne 5, 3) := by decide +kernel
theorem d_X12_lasts_42 : decode mX12_lasts.2.2.1 42 = .ok (.iload_n 2, 1) := by decide +kernel
theorem d_X12_lasts_43 : decode mX12_lasts.2.2.1 43 = .ok (.i2l, 1) := by decide +kernel
theorem d_X12_lasts_44 : decode mX12_lasts.2.2.1 44 = .ok (.aload_n 0, 1) := by decide +kernel
theorem d_X12_lasts_45 : decode mX12_lasts.2.2.1 45 = .ok (.getfield 276, 3) := by decide +kernel
theorem d_X12_lasts_48 : decode mX12_lasts.2.2.1 48 = .ok (.lmul, 1) := by decide +kernel
theorem d_X12_lasts_49 : decode mX12_lasts.2.2.1 49 = .ok (.lstore 4, 2) := by decide +kernel
theorem d_X12_lasts_51 : decode mX12_lasts.2.2.1 51 = .ok (.iconst 0, 1) := by decide +kernel
theorem d_X12_lasts_52 : decode mX12_lasts.2.2.1 52 = .ok (.istore 6, 2) := by decide +kernel
theorem d_X12_lasts_54 : decode mX12_lasts.2.2.1 54 = .ok (.iload 6, 2) := by decide +kernel
theorem d_X12_lasts_56 : decode mX12_lasts.2.2.1 56 = .ok (.aload_n 0, 1) := by decide +kernel
theorem d_X12_lasts_57 : decode mX12_lasts.2.2.1 57 = .ok (.getfield 63, 3) := by decide +kernel
theorem d_X12_lasts_60 : decode mX12_lasts.2.2.1 60 = .ok (.aload_n 0, 1) := by decide +kernel
theorem d_X12_lasts_61 : decode mX12_lasts.2.2.1 61 = .ok (.getfield 48, 3) := by decide +kernel
theorem d_X12_lasts_64 : decode mX12_lasts.2.2.1 64 = .ok (.iaload, 1) := by decide +kernel
theorem d_X12_lasts_65 : decode mX12_lasts.2.2.1 65 = .ok (.if_icmp .ge 24, 3) := by decide +kernel
theorem d_X12_lasts_89 : decode mX12_lasts.2.2.1 89 = .ok (.lload 4, 2) := by decide +kernel
theorem d_X12_lasts_91 : decode mX12_lasts.2.2.1 91 = .ok (.lconst 0, 1) := by decide +kernel
theorem d_X12_lasts_92 : decode mX12_lasts.2.2.1 92 = .ok (.lcmp, 1) := by decide +kernel
theorem d_X12_lasts_93 : decode mX12_lasts.2.2.1 93 = .ok (.ifCond .ne 7, 3) := by decide +kernel
theorem d_X12_lasts_100 : decode mX12_lasts.2.2.1 100 = .ok (.iload_n 1, 1) := by decide +kernel
theorem d_X12_lasts_101 : decode mX12_lasts.2.2.1 101 = .ok (.i2l, 1) := by decide +kernel
theorem d_X12_lasts_102 : decode mX12_lasts.2.2.1 102 = .ok (.lload 4, 2) := by decide +kernel
theorem d_X12_lasts_104 : decode mX12_lasts.2.2.1 104 = .ok (.ldiv, 1) := by decide +kernel
theorem d_X12_lasts_105 : decode mX12_lasts.2.2.1 105 = .ok (.l2i, 1) := by decide +kernel
theorem d_X12_lasts_106 : decode mX12_lasts.2.2.1 106 = .ok (.ireturn, 1) := by decide +kernel
theorem d_X12_lasts_96 : decode mX12_lasts.2.2.1 96 = .ok (.iconst (-1), 1) := by decide +kernel
theorem d_X12_lasts_97 : decode mX12_lasts.2.2.1 97 = .ok (.goto 9, 3) := by decide +kernel
theorem d_X12_lasts_68 : decode mX12_lasts.2.2.1 68 = .ok (.lload 4, 2) := by decide +kernel
theorem d_X12_lasts_70 : decode mX12_lasts.2.2.1 70 = .ok (.iload_n 3, 1) := by decide +kernel
theorem d_X12_lasts_71 : decode mX12_lasts.2.2.1 71 = .ok (.i2l, 1) := by decide +kernel
theorem d_X12_lasts_72 : decode mX12_lasts.2.2.1 72 = .ok (.aload_n 0, 1) := by decide +kernel
theorem d_X12_lasts_73 : decode mX12_lasts.2.2.1 73 = .ok (.iload 6, 2) := by decide +kernel
theorem d_X12_lasts_75 : decode mX12_lasts.2.2.1 75 = .ok (.invokevirtual 568, 3) := by decide +kernel
theorem d_X12_lasts_78 : decode mX12_lasts.2.2.1 78 = .ok (.i2l, 1) := by decide +kernel
theorem d_X12_lasts_79 : decode mX12_lasts.2.2.1 79 = .ok (.lmul, 1) := by decide +kernel
theorem d_X12_lasts_80 : decode mX12_lasts.2.2.1 80 = .ok (.ladd, 1) := by decide +kernel
theorem d_X12_lasts_81 : decode mX12_lasts.2.2.1 81 = .ok (.lstore 4, 2) := by decide +kernel
theorem d_X12_lasts_83 : decode mX12_lasts.2.2.1 83 = .ok (.iinc 6 1, 3) := by decide +kernel
theorem d_X12_lasts_86 : decode mX12_lasts.2.2.1 86 = .ok (.goto (-32), 3) := by decide +kernel
def mX12_measure : MD := (12, yX12_measure, cX12_measure, 3, some .int)
theorem d_X12_measure_0 : decode mX12_measure.2.2.1 0 = .ok (.iload_n 1, 1) := by decide +kernel
theorem d_X12_measure_1 : decode mX12_measure.2.2.1 1 = .ok (.iconst 0, 1) := by decide +kernel
theorem d_X12_measure_2 : decode mX12_measure.2.2.1 2 = .ok (.ldc_w 688, 3) := by decide +kernel
theorem k_12_688 : Jvm.Cond.constant (e_cn 12) 688 (Int32.ofInt 10000000) ∈ tblG := tblG_in (inT9 (List.mem_of_getElem? (i := 237) rfl)) rfl
theorem d_X12_measure_5 : decode mX12_measure.2.2.1 5 = .ok (.invokestatic 467, 3) := by decide +kernel
theorem d_X12_measure_8 : decode mX12_measure.2.2.1 8 = .ok (.ifCond .eq 12, 3) := by decide +kernel
theorem d_X12_measure_20 : decode mX12_measure.2.2.1 20 = .ok (.iconst (-1), 1) := by decide +kernel
theorem d_X12_measure_21 : decode mX12_measure.2.2.1 21 = .ok (.ireturn, 1) := by decide +kernel
theorem d_X12_measure_11 : decode mX12_measure.2.2.1 11 = .ok (.aload_n 0, 1) := by decide +kernel
theorem d_X12_measure_12 : decode mX12_measure.2.2.1 12 = .ok (.getfield 333, 3) := by decide +kernel
theorem d_X12_measure_15 : decode mX12_measure.2.2.1 15 = .ok (.bipush 12, 2) := by decide +kernel
theorem d_X12_measure_17 : decode mX12_measure.2.2.1 17 = .ok (.if_icmp .ne 5, 3) := by decide +kernel
theorem d_X12_measure_22 : decode mX12_measure.2.2.1 22 = .ok (.iconst 0, 1) := by decide +kernel
theorem d_X12_measure_23 : decode mX12_measure.2.2.1 23 = .ok (.istore_n 2, 1) := by decide +kernel
theorem d_X12_measure_24 : decode mX12_measure.2.2.1 24 = .ok (.iload_n 2, 1) := by decide +kernel
theorem d_X12_measure_25 : decode mX12_measure.2.2.1 25 = .ok (.iconst 3, 1) := by decide +kernel
theorem d_X12_measure_26 : decode mX12_measure.2.2.1 26 = .ok (.if_icmp .ge 28, 3) := by decide +kernel
theorem d_X12_measure_29 : decode mX12_measure.2.2.1 29 = .ok (.aload_n 0, 1) := by decide +kernel
theorem d_X12_measure_30 : decode mX12_measure.2.2.1 30 = .ok (.getfield 336, 3) := by decide +kernel
theorem d_X12_measure_33 : decode mX12_measure.2.2.1 33 = .ok (.iconst 3, 1) := by decide +kernel
theorem d_X12_measure_34 : decode mX12_measure.2.2.1 34 = .ok (.aload_n 0, 1) := by decide +kernel
theorem d_X12_measure_35 : decode mX12_measure.2.2.1 35 = .ok (.getfield 333, 3) := by decide +kernel
theorem d_X12_measure_38 : decode mX12_measure.2.2.1 38 = .ok (.imul, 1) := by decide +kernel
theorem d_X12_measure_39 : decode mX12_measure.2.2.1 39 = .ok (.iload_n 2, 1) := by decide +kernel
theorem d_X12_measure_40 : decode mX12_measure.2.2.1 40 = .ok (.iadd, 1) := by decide +kernel
theorem d_X12_measure_41 : decode mX12_measure.2.2.1 41 = .ok (.aload_n 0, 1) := by decide +kernel
theorem d_X12_measure_42 : decode mX12_measure.2.2.1 42 = .ok (.getfield 168, 3) := by decide +kernel
theorem d_X12_measure_45 : decode mX12_measure.2.2.1 45 = .ok (.iload_n 2, 1) := by decide +kernel
theorem d_X12_measure_46 : decode mX12_measure.2.2.1 46 = .ok (.iaload, 1) := by decide +kernel
theorem d_X12_measure_47 : decode mX12_measure.2.2.1 47 = .ok (.iastore, 1) := by decide +kernel
theorem d_X12_measure_48 : decode mX12_measure.2.2.1 48 = .ok (.iinc 2 1, 3) := by decide +kernel
theorem d_X12_measure_51 : decode mX12_measure.2.2.1 51 = .ok (.goto (-27), 3) := by decide +kernel
theorem d_X12_measure_54 : decode mX12_measure.2.2.1 54 = .ok (.aload_n 0, 1) := by decide +kernel
theorem d_X12_measure_55 : decode mX12_measure.2.2.1 55 = .ok (.getfield 339, 3) := by decide +kernel
theorem d_X12_measure_58 : decode mX12_measure.2.2.1 58 = .ok (.aload_n 0, 1) := by decide +kernel
theorem d_X12_measure_59 : decode mX12_measure.2.2.1 59 = .ok (.getfield 333, 3) := by decide +kernel
theorem d_X12_measure_62 : decode mX12_measure.2.2.1 62 = .ok (.iload_n 1, 1) := by decide +kernel
theorem d_X12_measure_63 : decode mX12_measure.2.2.1 63 = .ok (.iastore, 1) := by decide +kernel
theorem d_X12_measure_64 : decode mX12_measure.2.2.1 64 = .ok (.aload_n 0, 1) := by decide +kernel
theorem d_X12_measure_65 : decode mX12_measure.2.2.1 65 = .ok (.dup, 1) := by decide +kernel
theorem d_X12_measure_66 : decode mX12_measure.2.2.1 66 = .ok (.getfield 333, 3) := by decide +kernel
theorem d_X12_measure_69 : decode mX12_measure.2.2.1 69 = .ok (.iconst 1, 1) := by decide +kernel
theorem d_X12_measure_70 : decode mX12_measure.2.2.1 70 = .ok (.iadd, 1) := by decide +kernel
theorem d_X12_measure_71 : decode mX12_measure.2.2.1 71 = .ok (.putfield 333, 3) := by decide +kernel
theorem d_X12_measure_74 : decode mX12_measure.2.2.1 74 = .ok (.aload_n 0, 1) := by decide +kernel
theorem d_X12_measure_75 : decode mX12_measure.2.2.1 75 = .ok (.getfield 333, 3) := by decide +kernel
theorem d_X12_measure_78 : decode mX12_measure.2.2.1 78 = .ok (.ireturn, 1) := by decide +kernel
def mX12_over : MD := (12, yX12_over, cX12_over, 10, some .int)
theorem d_X12_over_0 : decode mX12_over.2.2.1 0 = .ok (.aload_n 0, 1) := by decide +kernel
theorem d_X12_over_1 : decode mX12_over.2.2.1 1 = .ok (.iconst 0, 1) := by decide +kernel
theorem d_X12_over_2 : decode mX12_over.2.2.1 2 = .ok (.invokevirtual 680, 3) := by decide +kernel
def mX12_span : MD := (12, yX12_span, cX12_span, 2, some .int)
theorem sel_X12_span : Cond.instanceMethod mX12_span.2.1 ∈ tblG ∧ Cond.selects mX12_span.2.1.cls mX12_span.2.1 mX12_span.2.1 ∈ tblG := ⟨tblG_in (inT9 (List.mem_of_getElem? (i := 222) rfl)) rfl, tblG_in (inP9 (q := (mX12_span.2.1, 121)) (List.mem_of_getElem? (i := 4) rfl)) rfl⟩
theorem s_12_680 : e_siteV 12 680 mX12_span 12 := ⟨tblG_in (inT9 (List.mem_of_getElem? (i := 220) rfl)) rfl, sel_X12_span.1, sel_X12_span.2, rfl⟩
theorem d_X12_span_0 : decode mX12_span.2.2.1 0 = .ok (.iload_n 1, 1) := by decide +kernel
theorem d_X12_span_1 : decode mX12_span.2.2.1 1 = .ok (.aload_n 0, 1) := by decide +kernel
theorem d_X12_span_2 : decode mX12_span.2.2.1 2 = .ok (.getfield 66, 3) := by decide +kernel
theorem d_X12_span_5 : decode mX12_span.2.2.1 5 = .ok (.aload_n 0, 1) := by decide +kernel
theorem d_X12_span_6 : decode mX12_span.2.2.1 6 = .ok (.getfield 48, 3) := by decide +kernel
theorem d_X12_span_9 : decode mX12_span.2.2.1 9 = .ok (.iaload, 1) := by decide +kernel
theorem d_X12_span_10 : decode mX12_span.2.2.1 10 = .ok (.if_icmp .ge 35, 3) := by decide +kernel
theorem d_X12_span_45 : decode mX12_span.2.2.1 45 = .ok (.iconst 1, 1) := by decide +kernel
theorem d_X12_span_46 : decode mX12_span.2.2.1 46 = .ok (.ireturn, 1) := by decide +kernel
theorem d_X12_span_13 : decode mX12_span.2.2.1 13 = .ok (.aload_n 0, 1) := by decide +kernel
theorem d_X12_span_14 : decode mX12_span.2.2.1 14 = .ok (.getfield 88, 3) := by decide +kernel
theorem d_X12_span_17 : decode mX12_span.2.2.1 17 = .ok (.iconst 3, 1) := by decide +kernel
theorem d_X12_span_18 : decode mX12_span.2.2.1 18 = .ok (.aload_n 0, 1) := by decide +kernel
theorem d_X12_span_19 : decode mX12_span.2.2.1 19 = .ok (.getfield 48, 3) := by decide +kernel
theorem d_X12_span_22 : decode mX12_span.2.2.1 22 = .ok (.imul, 1) := by decide +kernel
theorem d_X12_span_23 : decode mX12_span.2.2.1 23 = .ok (.iload_n 1, 1) := by decide +kernel
theorem d_X12_span_24 : decode mX12_span.2.2.1 24 = .ok (.iadd, 1) := by decide +kernel
theorem d_X12_span_25 : decode mX12_span.2.2.1 25 = .ok (.iaload, 1) := by decide +kernel
theorem d_X12_span_26 : decode mX12_span.2.2.1 26 = .ok (.aload_n 0, 1) := by decide +kernel
theorem d_X12_span_27 : decode mX12_span.2.2.1 27 = .ok (.getfield 85, 3) := by decide +kernel
theorem d_X12_span_30 : decode mX12_span.2.2.1 30 = .ok (.iconst 3, 1) := by decide +kernel
theorem d_X12_span_31 : decode mX12_span.2.2.1 31 = .ok (.aload_n 0, 1) := by decide +kernel
theorem d_X12_span_32 : decode mX12_span.2.2.1 32 = .ok (.getfield 48, 3) := by decide +kernel
theorem d_X12_span_35 : decode mX12_span.2.2.1 35 = .ok (.imul, 1) := by decide +kernel
theorem d_X12_span_36 : decode mX12_span.2.2.1 36 = .ok (.iload_n 1, 1) := by decide +kernel
theorem d_X12_span_37 : decode mX12_span.2.2.1 37 = .ok (.iadd, 1) := by decide +kernel
theorem d_X12_span_38 : decode mX12_span.2.2.1 38 = .ok (.iaload, 1) := by decide +kernel
theorem d_X12_span_39 : decode mX12_span.2.2.1 39 = .ok (.isub, 1) := by decide +kernel
theorem d_X12_span_40 : decode mX12_span.2.2.1 40 = .ok (.iconst 1, 1) := by decide +kernel
theorem d_X12_span_41 : decode mX12_span.2.2.1 41 = .ok (.iadd, 1) := by decide +kernel
theorem d_X12_span_42 : decode mX12_span.2.2.1 42 = .ok (.goto 4, 3) := by decide +kernel
theorem ok_X12_span : e_m mX12_span 1 := ⟨tblG_in (inT9 (List.mem_of_getElem? (i := 223) rfl)) rfl, plainFor_of_name (by decide), rfl, ini_12, by decide +kernel, by decide⟩
theorem d_X12_over_5 : decode mX12_over.2.2.1 5 = .ok (.aload_n 0, 1) := by decide +kernel
theorem d_X12_over_6 : decode mX12_over.2.2.1 6 = .ok (.iconst 1, 1) := by decide +kernel
theorem d_X12_over_7 : decode mX12_over.2.2.1 7 = .ok (.invokevirtual 680, 3) := by decide +kernel
theorem d_X12_over_10 : decode mX12_over.2.2.1 10 = .ok (.imul, 1) := by decide +kernel
theorem d_X12_over_11 : decode mX12_over.2.2.1 11 = .ok (.aload_n 0, 1) := by decide +kernel
theorem d_X12_over_12 : decode mX12_over.2.2.1 12 = .ok (.iconst 2, 1) := by decide +kernel
theorem d_X12_over_13 : decode mX12_over.2.2.1 13 = .ok (.invokevirtual 680, 3) := by decide +kernel
theorem d_X12_over_16 : decode mX12_over.2.2.1 16 = .ok (.imul, 1) := by decide +kernel
theorem d_X12_over_17 : decode mX12_over.2.2.1 17 = .ok (.sipush 256, 3) := by decide +kernel
theorem d_X12_over_20 : decode mX12_over.2.2.1 20 = .ok (.if_icmp .le 5, 3) := by decide +kernel
theorem d_X12_over_25 : decode mX12_over.2.2.1 25 = .ok (.lconst 0, 1) := by decide +kernel
theorem d_X12_over_26 : decode mX12_over.2.2.1 26 = .ok (.lstore_n 2, 1) := by decide +kernel
theorem d_X12_over_27 : decode mX12_over.2.2.1 27 = .ok (.iconst 0, 1) := by decide +kernel
theorem d_X12_over_28 : decode mX12_over.2.2.1 28 = .ok (.istore 4, 2) := by decide +kernel
end
/-! 35.12 -/
section
theorem d_X12_over_30 : decode mX12_over.2.2.1 30 = .ok (.iconst 0, 1) := by decide +kernel
theorem d_X12_over_31 : decode mX12_over.2.2.1 31 = .ok (.istore 5, 2) := by decide +kernel
theorem d_X12_over_23 : decode mX12_over.2.2.1 23 = .ok (.iconst (-1), 1) := by decide +kernel
theorem d_X12_over_24 : decode mX12_over.2.2.1 24 = .ok (.ireturn, 1) := by decide +kernel
theorem d_X12_over_33 : decode mX12_over.2.2.1 33 = .ok (.iload 5, 2) := by decide +kernel
theorem d_X12_over_35 : decode mX12_over.2.2.1 35 = .ok (.aload_n 0, 1) := by decide +kernel
theorem d_X12_over_36 : decode mX12_over.2.2.1 36 = .ok (.iconst 0, 1) := by decide +kernel
theorem d_X12_over_37 : decode mX12_over.2.2.1 37 = .ok (.invokevirtual 680, 3) := by decide +kernel
theorem d_X12_over_40 : decode mX12_over.2.2.1 40 = .ok (.if_icmp .ge 168, 3) := by decide +kernel
theorem d_X12_over_208 : decode mX12_over.2.2.1 208 = .ok (.aload_n 0, 1) := by decide +kernel
theorem d_X12_over_209 : decode mX12_over.2.2.1 209 = .ok (.iconst 1, 1) := by decide +kernel
theorem d_X12_over_210 : decode mX12_over.2.2.1 210 = .ok (.putfield 327, 3) := by decide +kernel
theorem d_X12_over_213 : decode mX12_over.2.2.1 213 = .ok (.lload_n 2, 1) := by decide +kernel
theorem d_X12_over_214 : decode mX12_over.2.2.1 214 = .ok (.l2i, 1) := by decide +kernel
theorem d_X12_over_215 : decode mX12_over.2.2.1 215 = .ok (.ireturn, 1) := by decide +kernel
theorem d_X12_over_43 : decode mX12_over.2.2.1 43 = .ok (.iconst 0, 1) := by decide +kernel
theorem d_X12_over_44 : decode mX12_over.2.2.1 44 = .ok (.istore 6, 2) := by decide +kernel
theorem d_X12_over_46 : decode mX12_over.2.2.1 46 = .ok (.iload 6, 2) := by decide +kernel
theorem d_X12_over_48 : decode mX12_over.2.2.1 48 = .ok (.aload_n 0, 1) := by decide +kernel
theorem d_X12_over_49 : decode mX12_over.2.2.1 49 = .ok (.iconst 1, 1) := by decide +kernel
theorem d_X12_over_50 : decode mX12_over.2.2.1 50 = .ok (.invokevirtual 680, 3) := by decide +kernel
theorem d_X12_over_53 : decode mX12_over.2.2.1 53 = .ok (.if_icmp .ge 149, 3) := by decide +kernel
theorem d_X12_over_202 : decode mX12_over.2.2.1 202 = .ok (.iinc 5 1, 3) := by decide +kernel
theorem d_X12_over_205 : decode mX12_over.2.2.1 205 = .ok (.goto (-172), 3) := by decide +kernel
theorem d_X12_over_56 : decode mX12_over.2.2.1 56 = .ok (.iconst 0, 1) := by decide +kernel
theorem d_X12_over_57 : decode mX12_over.2.2.1 57 = .ok (.istore 7, 2) := by decide +kernel
theorem d_X12_over_59 : decode mX12_over.2.2.1 59 = .ok (.iload 7, 2) := by decide +kernel
theorem d_X12_over_61 : decode mX12_over.2.2.1 61 = .ok (.aload_n 0, 1) := by decide +kernel
theorem d_X12_over_62 : decode mX12_over.2.2.1 62 = .ok (.iconst 2, 1) := by decide +kernel
theorem d_X12_over_63 : decode mX12_over.2.2.1 63 = .ok (.invokevirtual 680, 3) := by decide +kernel
theorem d_X12_over_66 : decode mX12_over.2.2.1 66 = .ok (.if_icmp .ge 130, 3) := by decide +kernel
theorem d_X12_over_196 : decode mX12_over.2.2.1 196 = .ok (.iinc 6 1, 3) := by decide +kernel
theorem d_X12_over_199 : decode mX12_over.2.2.1 199 = .ok (.goto (-153), 3) := by decide +kernel
theorem d_X12_over_69 : decode mX12_over.2.2.1 69 = .ok (.aload_n 0, 1) := by decide +kernel
theorem d_X12_over_70 : decode mX12_over.2.2.1 70 = .ok (.getfield 171, 3) := by decide +kernel
theorem d_X12_over_73 : decode mX12_over.2.2.1 73 = .ok (.iconst 0, 1) := by decide +kernel
theorem d_X12_over_74 : decode mX12_over.2.2.1 74 = .ok (.aload_n 0, 1) := by decide +kernel
theorem d_X12_over_75 : decode mX12_over.2.2.1 75 = .ok (.iconst 0, 1) := by decide +kernel
theorem d_X12_over_76 : decode mX12_over.2.2.1 76 = .ok (.invokevirtual 683, 3) := by decide +kernel
def mX12_lowOf : MD := (12, yX12_lowOf, cX12_lowOf, 2, some .int)
theorem sel_X12_lowOf : Cond.instanceMethod mX12_lowOf.2.1 ∈ tblG ∧ Cond.selects mX12_lowOf.2.1.cls mX12_lowOf.2.1 mX12_lowOf.2.1 ∈ tblG := ⟨tblG_in (inT9 (List.mem_of_getElem? (i := 226) rfl)) rfl, tblG_in (inP9 (q := (mX12_lowOf.2.1, 121)) (List.mem_of_getElem? (i := 5) rfl)) rfl⟩
theorem s_12_683 : e_siteV 12 683 mX12_lowOf 12 := ⟨tblG_in (inT9 (List.mem_of_getElem? (i := 224) rfl)) rfl, sel_X12_lowOf.1, sel_X12_lowOf.2, rfl⟩
theorem d_X12_lowOf_0 : decode mX12_lowOf.2.2.1 0 = .ok (.iload_n 1, 1) := by decide +kernel
theorem d_X12_lowOf_1 : decode mX12_lowOf.2.2.1 1 = .ok (.aload_n 0, 1) := by decide +kernel
theorem d_X12_lowOf_2 : decode mX12_lowOf.2.2.1 2 = .ok (.getfield 66, 3) := by decide +kernel
theorem d_X12_lowOf_5 : decode mX12_lowOf.2.2.1 5 = .ok (.aload_n 0, 1) := by decide +kernel
theorem d_X12_lowOf_6 : decode mX12_lowOf.2.2.1 6 = .ok (.getfield 48, 3) := by decide +kernel
theorem d_X12_lowOf_9 : decode mX12_lowOf.2.2.1 9 = .ok (.iaload, 1) := by decide +kernel
theorem d_X12_lowOf_10 : decode mX12_lowOf.2.2.1 10 = .ok (.if_icmp .ge 19, 3) := by decide +kernel
theorem d_X12_lowOf_29 : decode mX12_lowOf.2.2.1 29 = .ok (.iconst 0, 1) := by decide +kernel
theorem d_X12_lowOf_30 : decode mX12_lowOf.2.2.1 30 = .ok (.ireturn, 1) := by decide +kernel
theorem d_X12_lowOf_13 : decode mX12_lowOf.2.2.1 13 = .ok (.aload_n 0, 1) := by decide +kernel
theorem d_X12_lowOf_14 : decode mX12_lowOf.2.2.1 14 = .ok (.getfield 85, 3) := by decide +kernel
theorem d_X12_lowOf_17 : decode mX12_lowOf.2.2.1 17 = .ok (.iconst 3, 1) := by decide +kernel
theorem d_X12_lowOf_18 : decode mX12_lowOf.2.2.1 18 = .ok (.aload_n 0, 1) := by decide +kernel
theorem d_X12_lowOf_19 : decode mX12_lowOf.2.2.1 19 = .ok (.getfield 48, 3) := by decide +kernel
theorem d_X12_lowOf_22 : decode mX12_lowOf.2.2.1 22 = .ok (.imul, 1) := by decide +kernel
theorem d_X12_lowOf_23 : decode mX12_lowOf.2.2.1 23 = .ok (.iload_n 1, 1) := by decide +kernel
theorem d_X12_lowOf_24 : decode mX12_lowOf.2.2.1 24 = .ok (.iadd, 1) := by decide +kernel
theorem d_X12_lowOf_25 : decode mX12_lowOf.2.2.1 25 = .ok (.iaload, 1) := by decide +kernel
theorem d_X12_lowOf_26 : decode mX12_lowOf.2.2.1 26 = .ok (.goto 4, 3) := by decide +kernel
theorem ok_X12_lowOf : e_m mX12_lowOf 1 := ⟨tblG_in (inT9 (List.mem_of_getElem? (i := 227) rfl)) rfl, plainFor_of_name (by decide), rfl, ini_12, by decide +kernel, by decide⟩
theorem d_X12_over_79 : decode mX12_over.2.2.1 79 = .ok (.iload 5, 2) := by decide +kernel
theorem d_X12_over_81 : decode mX12_over.2.2.1 81 = .ok (.iadd, 1) := by decide +kernel
theorem d_X12_over_82 : decode mX12_over.2.2.1 82 = .ok (.iastore, 1) := by decide +kernel
theorem d_X12_over_83 : decode mX12_over.2.2.1 83 = .ok (.aload_n 0, 1) := by decide +kernel
theorem d_X12_over_84 : decode mX12_over.2.2.1 84 = .ok (.getfield 171, 3) := by decide +kernel
theorem d_X12_over_87 : decode mX12_over.2.2.1 87 = .ok (.iconst 1, 1) := by decide +kernel
theorem d_X12_over_88 : decode mX12_over.2.2.1 88 = .ok (.aload_n 0, 1) := by decide +kernel
theorem d_X12_over_89 : decode mX12_over.2.2.1 89 = .ok (.iconst 1, 1) := by decide +kernel
theorem d_X12_over_90 : decode mX12_over.2.2.1 90 = .ok (.invokevirtual 683, 3) := by decide +kernel
theorem d_X12_over_93 : decode mX12_over.2.2.1 93 = .ok (.iload 6, 2) := by decide +kernel
theorem d_X12_over_95 : decode mX12_over.2.2.1 95 = .ok (.iadd, 1) := by decide +kernel
theorem d_X12_over_96 : decode mX12_over.2.2.1 96 = .ok (.iastore, 1) := by decide +kernel
theorem d_X12_over_97 : decode mX12_over.2.2.1 97 = .ok (.aload_n 0, 1) := by decide +kernel
theorem d_X12_over_98 : decode mX12_over.2.2.1 98 = .ok (.getfield 171, 3) := by decide +kernel
theorem d_X12_over_101 : decode mX12_over.2.2.1 101 = .ok (.iconst 2, 1) := by decide +kernel
theorem d_X12_over_102 : decode mX12_over.2.2.1 102 = .ok (.aload_n 0, 1) := by decide +kernel
theorem d_X12_over_103 : decode mX12_over.2.2.1 103 = .ok (.iconst 2, 1) := by decide +kernel
theorem d_X12_over_104 : decode mX12_over.2.2.1 104 = .ok (.invokevirtual 683, 3) := by decide +kernel
theorem d_X12_over_107 : decode mX12_over.2.2.1 107 = .ok (.iload 7, 2) := by decide +kernel
theorem d_X12_over_109 : decode mX12_over.2.2.1 109 = .ok (.iadd, 1) := by decide +kernel
theorem d_X12_over_110 : decode mX12_over.2.2.1 110 = .ok (.iastore, 1) := by decide +kernel
theorem d_X12_over_111 : decode mX12_over.2.2.1 111 = .ok (.aload_n 0, 1) := by decide +kernel
theorem d_X12_over_112 : decode mX12_over.2.2.1 112 = .ok (.ldc2_w 686, 3) := by decide +kernel
theorem d_X12_over_115 : decode mX12_over.2.2.1 115 = .ok (.invokevirtual 637, 3) := by decide +kernel
theorem d_X12_over_118 : decode mX12_over.2.2.1 118 = .ok (.istore 8, 2) := by decide +kernel
theorem d_X12_over_120 : decode mX12_over.2.2.1 120 = .ok (.iload 4, 2) := by decide +kernel
theorem d_X12_over_122 : decode mX12_over.2.2.1 122 = .ok (.ifCond .eq 31, 3) := by decide +kernel
theorem d_X12_over_153 : decode mX12_over.2.2.1 153 = .ok (.iconst 1, 1) := by decide +kernel
theorem d_X12_over_154 : decode mX12_over.2.2.1 154 = .ok (.istore 4, 2) := by decide +kernel
theorem d_X12_over_156 : decode mX12_over.2.2.1 156 = .ok (.aload_n 0, 1) := by decide +kernel
theorem d_X12_over_157 : decode mX12_over.2.2.1 157 = .ok (.getfield 204, 3) := by decide +kernel
theorem d_X12_over_160 : decode mX12_over.2.2.1 160 = .ok (.lstore_n 2, 1) := by decide +kernel
theorem d_X12_over_161 : decode mX12_over.2.2.1 161 = .ok (.iconst 0, 1) := by decide +kernel
theorem d_X12_over_162 : decode mX12_over.2.2.1 162 = .ok (.istore 9, 2) := by decide +kernel
theorem d_X12_over_164 : decode mX12_over.2.2.1 164 = .ok (.iload 9, 2) := by decide +kernel
theorem d_X12_over_166 : decode mX12_over.2.2.1 166 = .ok (.iconst 3, 1) := by decide +kernel
theorem d_X12_over_167 : decode mX12_over.2.2.1 167 = .ok (.if_icmp .ge 23, 3) := by decide +kernel
theorem d_X12_over_170 : decode mX12_over.2.2.1 170 = .ok (.aload_n 0, 1) := by decide +kernel
theorem d_X12_over_171 : decode mX12_over.2.2.1 171 = .ok (.getfield 330, 3) := by decide +kernel
theorem d_X12_over_174 : decode mX12_over.2.2.1 174 = .ok (.iload 9, 2) := by decide +kernel
theorem d_X12_over_176 : decode mX12_over.2.2.1 176 = .ok (.aload_n 0, 1) := by decide +kernel
theorem d_X12_over_177 : decode mX12_over.2.2.1 177 = .ok (.getfield 171, 3) := by decide +kernel
theorem d_X12_over_180 : decode mX12_over.2.2.1 180 = .ok (.iload 9, 2) := by decide +kernel
theorem d_X12_over_182 : decode mX12_over.2.2.1 182 = .ok (.iaload, 1) := by decide +kernel
theorem d_X12_over_183 : decode mX12_over.2.2.1 183 = .ok (.iastore, 1) := by decide +kernel
theorem d_X12_over_184 : decode mX12_over.2.2.1 184 = .ok (.iinc 9 1, 3) := by decide +kernel
theorem d_X12_over_187 : decode mX12_over.2.2.1 187 = .ok (.goto (-23), 3) := by decide +kernel
theorem d_X12_over_190 : decode mX12_over.2.2.1 190 = .ok (.iinc 7 1, 3) := by decide +kernel
theorem d_X12_over_193 : decode mX12_over.2.2.1 193 = .ok (.goto (-134), 3) := by decide +kernel
theorem d_X12_over_125 : decode mX12_over.2.2.1 125 = .ok (.iload_n 1, 1) := by decide +kernel
theorem d_X12_over_126 : decode mX12_over.2.2.1 126 = .ok (.ifCond .eq 15, 3) := by decide +kernel
theorem d_X12_over_141 : decode mX12_over.2.2.1 141 = .ok (.aload_n 0, 1) := by decide +kernel
theorem d_X12_over_142 : decode mX12_over.2.2.1 142 = .ok (.getfield 204, 3) := by decide +kernel
theorem d_X12_over_145 : decode mX12_over.2.2.1 145 = .ok (.lload_n 2, 1) := by decide +kernel
theorem d_X12_over_146 : decode mX12_over.2.2.1 146 = .ok (.lcmp, 1) := by decide +kernel
theorem d_X12_over_147 : decode mX12_over.2.2.1 147 = .ok (.ifCond .lt 6, 3) := by decide +kernel
theorem d_X12_over_150 : decode mX12_over.2.2.1 150 = .ok (.goto 40, 3) := by decide +kernel
theorem d_X12_over_129 : decode mX12_over.2.2.1 129 = .ok (.aload_n 0, 1) := by decide +kernel
theorem d_X12_over_130 : decode mX12_over.2.2.1 130 = .ok (.getfield 204, 3) := by decide +kernel
theorem d_X12_over_133 : decode mX12_over.2.2.1 133 = .ok (.lload_n 2, 1) := by decide +kernel
theorem d_X12_over_134 : decode mX12_over.2.2.1 134 = .ok (.lcmp, 1) := by decide +kernel
theorem d_X12_over_135 : decode mX12_over.2.2.1 135 = .ok (.ifCond .gt 18, 3) := by decide +kernel
theorem d_X12_over_138 : decode mX12_over.2.2.1 138 = .ok (.goto 52, 3) := by decide +kernel
def mX12_run : MD := (12, yX12_run, cX12_run, 4, some .int)
theorem d_X12_run_0 : decode mX12_run.2.2.1 0 = .ok (.iload_n 1, 1) := by decide +kernel
theorem d_X12_run_1 : decode mX12_run.2.2.1 1 = .ok (.iconst (-1), 1) := by decide +kernel
theorem d_X12_run_2 : decode mX12_run.2.2.1 2 = .ok (.if_icmp .ge 6, 3) := by decide +kernel
theorem d_X12_run_8 : decode mX12_run.2.2.1 8 = .ok (.iconst 0, 1) := by decide +kernel
theorem d_X12_run_9 : decode mX12_run.2.2.1 9 = .ok (.istore_n 2, 1) := by decide +kernel
theorem d_X12_run_5 : decode mX12_run.2.2.1 5 = .ok (.bipush (-2), 2) := by decide +kernel
theorem d_X12_run_7 : decode mX12_run.2.2.1 7 = .ok (.ireturn, 1) := by decide +kernel
theorem d_X12_run_10 : decode mX12_run.2.2.1 10 = .ok (.iload_n 2, 1) := by decide +kernel
theorem d_X12_run_11 : decode mX12_run.2.2.1 11 = .ok (.iconst 3, 1) := by decide +kernel
theorem d_X12_run_12 : decode mX12_run.2.2.1 12 = .ok (.if_icmp .ge 21, 3) := by decide +kernel
theorem d_X12_run_15 : decode mX12_run.2.2.1 15 = .ok (.aload_n 0, 1) := by decide +kernel
theorem d_X12_run_16 : decode mX12_run.2.2.1 16 = .ok (.getfield 171, 3) := by decide +kernel
theorem d_X12_run_19 : decode mX12_run.2.2.1 19 = .ok (.iload_n 2, 1) := by decide +kernel
theorem d_X12_run_20 : decode mX12_run.2.2.1 20 = .ok (.aload_n 0, 1) := by decide +kernel
theorem d_X12_run_21 : decode mX12_run.2.2.1 21 = .ok (.getfield 168, 3) := by decide +kernel
theorem d_X12_run_24 : decode mX12_run.2.2.1 24 = .ok (.iload_n 2, 1) := by decide +kernel
theorem d_X12_run_25 : decode mX12_run.2.2.1 25 = .ok (.iaload, 1) := by decide +kernel
theorem d_X12_run_26 : decode mX12_run.2.2.1 26 = .ok (.iastore, 1) := by decide +kernel
theorem d_X12_run_27 : decode mX12_run.2.2.1 27 = .ok (.iinc 2 1, 3) := by decide +kernel
theorem d_X12_run_30 : decode mX12_run.2.2.1 30 = .ok (.goto (-20), 3) := by decide +kernel
theorem d_X12_run_33 : decode mX12_run.2.2.1 33 = .ok (.aload_n 0, 1) := by decide +kernel
theorem d_X12_run_34 : decode mX12_run.2.2.1 34 = .ok (.iconst 1, 1) := by decide +kernel
theorem d_X12_run_35 : decode mX12_run.2.2.1 35 = .ok (.putfield 225, 3) := by decide +kernel
theorem d_X12_run_38 : decode mX12_run.2.2.1 38 = .ok (.aload_n 0, 1) := by decide +kernel
theorem d_X12_run_39 : decode mX12_run.2.2.1 39 = .ok (.iload_n 1, 1) := by decide +kernel
theorem d_X12_run_40 : decode mX12_run.2.2.1 40 = .ok (.i2l, 1) := by decide +kernel
theorem d_X12_run_41 : decode mX12_run.2.2.1 41 = .ok (.invokevirtual 637, 3) := by decide +kernel
theorem d_X12_run_44 : decode mX12_run.2.2.1 44 = .ok (.istore_n 2, 1) := by decide +kernel
theorem d_X12_run_45 : decode mX12_run.2.2.1 45 = .ok (.aload_n 0, 1) := by decide +kernel
theorem d_X12_run_46 : decode mX12_run.2.2.1 46 = .ok (.iconst 0, 1) := by decide +kernel
theorem d_X12_run_47 : decode mX12_run.2.2.1 47 = .ok (.putfield 225, 3) := by decide +kernel
theorem d_X12_run_50 : decode mX12_run.2.2.1 50 = .ok (.aload_n 0, 1) := by decide +kernel
theorem d_X12_run_51 : decode mX12_run.2.2.1 51 = .ok (.iconst 1, 1) := by decide +kernel
theorem d_X12_run_52 : decode mX12_run.2.2.1 52 = .ok (.putfield 270, 3) := by decide +kernel
theorem d_X12_run_55 : decode mX12_run.2.2.1 55 = .ok (.aload_n 0, 1) := by decide +kernel
theorem d_X12_run_56 : decode mX12_run.2.2.1 56 = .ok (.aload_n 0, 1) := by decide +kernel
theorem d_X12_run_57 : decode mX12_run.2.2.1 57 = .ok (.getfield 201, 3) := by decide +kernel
theorem d_X12_run_60 : decode mX12_run.2.2.1 60 = .ok (.putfield 273, 3) := by decide +kernel
theorem d_X12_run_63 : decode mX12_run.2.2.1 63 = .ok (.aload_n 0, 1) := by decide +kernel
theorem d_X12_run_64 : decode mX12_run.2.2.1 64 = .ok (.aload_n 0, 1) := by decide +kernel
theorem d_X12_run_65 : decode mX12_run.2.2.1 65 = .ok (.getfield 204, 3) := by decide +kernel
theorem d_X12_run_68 : decode mX12_run.2.2.1 68 = .ok (.putfield 276, 3) := by decide +kernel
theorem d_X12_run_71 : decode mX12_run.2.2.1 71 = .ok (.aload_n 0, 1) := by decide +kernel
theorem d_X12_run_72 : decode mX12_run.2.2.1 72 = .ok (.aload_n 0, 1) := by decide +kernel
theorem d_X12_run_73 : decode mX12_run.2.2.1 73 = .ok (.getfield 210, 3) := by decide +kernel
theorem d_X12_run_76 : decode mX12_run.2.2.1 76 = .ok (.putfield 279, 3) := by decide +kernel
theorem d_X12_run_79 : decode mX12_run.2.2.1 79 = .ok (.aload_n 0, 1) := by decide +kernel
theorem d_X12_run_80 : decode mX12_run.2.2.1 80 = .ok (.aload_n 0, 1) := by decide +kernel
theorem d_X12_run_81 : decode mX12_run.2.2.1 81 = .ok (.getfield 213, 3) := by decide +kernel
theorem d_X12_run_84 : decode mX12_run.2.2.1 84 = .ok (.putfield 282, 3) := by decide +kernel
theorem d_X12_run_87 : decode mX12_run.2.2.1 87 = .ok (.aload_n 0, 1) := by decide +kernel
theorem d_X12_run_88 : decode mX12_run.2.2.1 88 = .ok (.aload_n 0, 1) := by decide +kernel
theorem d_X12_run_89 : decode mX12_run.2.2.1 89 = .ok (.getfield 216, 3) := by decide +kernel
theorem d_X12_run_92 : decode mX12_run.2.2.1 92 = .ok (.putfield 285, 3) := by decide +kernel
theorem d_X12_run_95 : decode mX12_run.2.2.1 95 = .ok (.aload_n 0, 1) := by decide +kernel
theorem d_X12_run_96 : decode mX12_run.2.2.1 96 = .ok (.aload_n 0, 1) := by decide +kernel
theorem d_X12_run_97 : decode mX12_run.2.2.1 97 = .ok (.getfield 267, 3) := by decide +kernel
theorem d_X12_run_100 : decode mX12_run.2.2.1 100 = .ok (.putfield 288, 3) := by decide +kernel
theorem d_X12_run_103 : decode mX12_run.2.2.1 103 = .ok (.aload_n 0, 1) := by decide +kernel
theorem d_X12_run_104 : decode mX12_run.2.2.1 104 = .ok (.aload_n 0, 1) := by decide +kernel
theorem d_X12_run_105 : decode mX12_run.2.2.1 105 = .ok (.getfield 240, 3) := by decide +kernel
theorem d_X12_run_108 : decode mX12_run.2.2.1 108 = .ok (.putfield 300, 3) := by decide +kernel
theorem d_X12_run_111 : decode mX12_run.2.2.1 111 = .ok (.aload_n 0, 1) := by decide +kernel
theorem d_X12_run_112 : decode mX12_run.2.2.1 112 = .ok (.aload_n 0, 1) := by decide +kernel
theorem d_X12_run_113 : decode mX12_run.2.2.1 113 = .ok (.getfield 252, 3) := by decide +kernel
theorem d_X12_run_116 : decode mX12_run.2.2.1 116 = .ok (.putfield 303, 3) := by decide +kernel
theorem d_X12_run_119 : decode mX12_run.2.2.1 119 = .ok (.iconst 0, 1) := by decide +kernel
theorem d_X12_run_120 : decode mX12_run.2.2.1 120 = .ok (.istore_n 3, 1) := by decide +kernel
theorem d_X12_run_121 : decode mX12_run.2.2.1 121 = .ok (.iload_n 3, 1) := by decide +kernel
theorem d_X12_run_122 : decode mX12_run.2.2.1 122 = .ok (.bipush 6, 2) := by decide +kernel
theorem d_X12_run_124 : decode mX12_run.2.2.1 124 = .ok (.if_icmp .ge 21, 3) := by decide +kernel
theorem d_X12_run_127 : decode mX12_run.2.2.1 127 = .ok (.aload_n 0, 1) := by decide +kernel
theorem d_X12_run_128 : decode mX12_run.2.2.1 128 = .ok (.getfield 291, 3) := by decide +kernel
theorem d_X12_run_131 : decode mX12_run.2.2.1 131 = .ok (.iload_n 3, 1) := by decide +kernel
theorem d_X12_run_132 : decode mX12_run.2.2.1 132 = .ok (.aload_n 0, 1) := by decide +kernel
theorem d_X12_run_133 : decode mX12_run.2.2.1 133 = .ok (.getfield 174, 3) := by decide +kernel
theorem d_X12_run_136 : decode mX12_run.2.2.1 136 = .ok (.iload_n 3, 1) := by decide +kernel
theorem d_X12_run_137 : decode mX12_run.2.2.1 137 = .ok (.iaload, 1) := by decide +kernel
theorem d_X12_run_138 : decode mX12_run.2.2.1 138 = .ok (.iastore, 1) := by decide +kernel
theorem d_X12_run_139 : decode mX12_run.2.2.1 139 = .ok (.iinc 3 1, 3) := by decide +kernel
theorem d_X12_run_142 : decode mX12_run.2.2.1 142 = .ok (.goto (-21), 3) := by decide +kernel
theorem d_X12_run_145 : decode mX12_run.2.2.1 145 = .ok (.iconst 0, 1) := by decide +kernel
theorem d_X12_run_146 : decode mX12_run.2.2.1 146 = .ok (.istore_n 3, 1) := by decide +kernel
theorem d_X12_run_147 : decode mX12_run.2.2.1 147 = .ok (.iload_n 3, 1) := by decide +kernel
theorem d_X12_run_148 : decode mX12_run.2.2.1 148 = .ok (.bipush 24, 2) := by decide +kernel
theorem d_X12_run_150 : decode mX12_run.2.2.1 150 = .ok (.if_icmp .ge 21, 3) := by decide +kernel
theorem d_X12_run_153 : decode mX12_run.2.2.1 153 = .ok (.aload_n 0, 1) := by decide +kernel
theorem d_X12_run_154 : decode mX12_run.2.2.1 154 = .ok (.getfield 294, 3) := by decide +kernel
theorem d_X12_run_157 : decode mX12_run.2.2.1 157 = .ok (.iload_n 3, 1) := by decide +kernel
theorem d_X12_run_158 : decode mX12_run.2.2.1 158 = .ok (.aload_n 0, 1) := by decide +kernel
theorem d_X12_run_159 : decode mX12_run.2.2.1 159 = .ok (.getfield 222, 3) := by decide +kernel
theorem d_X12_run_162 : decode mX12_run.2.2.1 162 = .ok (.iload_n 3, 1) := by decide +kernel
theorem d_X12_run_163 : decode mX12_run.2.2.1 163 = .ok (.iaload, 1) := by decide +kernel
theorem d_X12_run_164 : decode mX12_run.2.2.1 164 = .ok (.iastore, 1) := by decide +kernel
theorem d_X12_run_165 : decode mX12_run.2.2.1 165 = .ok (.iinc 3 1, 3) := by decide +kernel
theorem d_X12_run_168 : decode mX12_run.2.2.1 168 = .ok (.goto (-21), 3) := by decide +kernel
theorem d_X12_run_171 : decode mX12_run.2.2.1 171 = .ok (.iconst 0, 1) := by decide +kernel
theorem d_X12_run_172 : decode mX12_run.2.2.1 172 = .ok (.istore_n 3, 1) := by decide +kernel
theorem d_X12_run_173 : decode mX12_run.2.2.1 173 = .ok (.iload_n 3, 1) := by decide +kernel
theorem d_X12_run_174 : decode mX12_run.2.2.1 174 = .ok (.bipush 6, 2) := by decide +kernel
theorem d_X12_run_176 : decode mX12_run.2.2.1 176 = .ok (.if_icmp .ge 46, 3) := by decide +kernel
theorem d_X12_run_179 : decode mX12_run.2.2.1 179 = .ok (.aload_n 0, 1) := by decide +kernel
theorem d_X12_run_180 : decode mX12_run.2.2.1 180 = .ok (.getfield 297, 3) := by decide +kernel
theorem d_X12_run_183 : decode mX12_run.2.2.1 183 = .ok (.iload_n 3, 1) := by decide +kernel
end
/-! 35.13 -/
section
theorem d_X12_run_184 : decode mX12_run.2.2.1 184 = .ok (.aload_n 0, 1) := by decide +kernel
theorem d_X12_run_185 : decode mX12_run.2.2.1 185 = .ok (.getfield 177, 3) := by decide +kernel
theorem d_X12_run_188 : decode mX12_run.2.2.1 188 = .ok (.iload_n 3, 1) := by decide +kernel
theorem d_X12_run_189 : decode mX12_run.2.2.1 189 = .ok (.baload, 1) := by decide +kernel
theorem d_X12_run_190 : decode mX12_run.2.2.1 190 = .ok (.ifCond .ne 24, 3) := by decide +kernel
theorem d_X12_run_193 : decode mX12_run.2.2.1 193 = .ok (.aload_n 0, 1) := by decide +kernel
theorem d_X12_run_194 : decode mX12_run.2.2.1 194 = .ok (.getfield 183, 3) := by decide +kernel
theorem d_X12_run_197 : decode mX12_run.2.2.1 197 = .ok (.iload_n 3, 1) := by decide +kernel
theorem d_X12_run_198 : decode mX12_run.2.2.1 198 = .ok (.iaload, 1) := by decide +kernel
theorem d_X12_run_199 : decode mX12_run.2.2.1 199 = .ok (.ifCond .ne 15, 3) := by decide +kernel
theorem d_X12_run_202 : decode mX12_run.2.2.1 202 = .ok (.iload_n 3, 1) := by decide +kernel
theorem d_X12_run_203 : decode mX12_run.2.2.1 203 = .ok (.aload_n 0, 1) := by decide +kernel
theorem d_X12_run_204 : decode mX12_run.2.2.1 204 = .ok (.getfield 195, 3) := by decide +kernel
theorem d_X12_run_207 : decode mX12_run.2.2.1 207 = .ok (.if_icmp .eq 7, 3) := by decide +kernel
theorem d_X12_run_210 : decode mX12_run.2.2.1 210 = .ok (.iconst 1, 1) := by decide +kernel
theorem d_X12_run_211 : decode mX12_run.2.2.1 211 = .ok (.goto 4, 3) := by decide +kernel
theorem d_X12_run_214 : decode mX12_run.2.2.1 214 = .ok (.iconst 0, 1) := by decide +kernel
theorem d_X12_run_215 : decode mX12_run.2.2.1 215 = .ok (.bastore, 1) := by decide +kernel
theorem d_X12_run_216 : decode mX12_run.2.2.1 216 = .ok (.iinc 3 1, 3) := by decide +kernel
theorem d_X12_run_219 : decode mX12_run.2.2.1 219 = .ok (.goto (-46), 3) := by decide +kernel
theorem d_X12_run_222 : decode mX12_run.2.2.1 222 = .ok (.iload_n 2, 1) := by decide +kernel
theorem d_X12_run_223 : decode mX12_run.2.2.1 223 = .ok (.ireturn, 1) := by decide +kernel
def mX12_text : MD := (12, yX12_text, cX12_text, 3, some .int)
theorem d_X12_text_0 : decode mX12_text.2.2.1 0 = .ok (.aload_n 0, 1) := by decide +kernel
theorem d_X12_text_1 : decode mX12_text.2.2.1 1 = .ok (.aload_n 0, 1) := by decide +kernel
theorem d_X12_text_2 : decode mX12_text.2.2.1 2 = .ok (.getfield 13, 3) := by decide +kernel
theorem d_X12_text_5 : decode mX12_text.2.2.1 5 = .ok (.putfield 17, 3) := by decide +kernel
theorem d_X12_text_8 : decode mX12_text.2.2.1 8 = .ok (.aload_n 0, 1) := by decide +kernel
theorem d_X12_text_9 : decode mX12_text.2.2.1 9 = .ok (.iconst 0, 1) := by decide +kernel
theorem d_X12_text_10 : decode mX12_text.2.2.1 10 = .ok (.putfield 13, 3) := by decide +kernel
theorem d_X12_text_13 : decode mX12_text.2.2.1 13 = .ok (.aload_n 0, 1) := by decide +kernel
theorem d_X12_text_14 : decode mX12_text.2.2.1 14 = .ok (.iconst 0, 1) := by decide +kernel
theorem d_X12_text_15 : decode mX12_text.2.2.1 15 = .ok (.putfield 26, 3) := by decide +kernel
theorem d_X12_text_18 : decode mX12_text.2.2.1 18 = .ok (.aload_n 0, 1) := by decide +kernel
theorem d_X12_text_19 : decode mX12_text.2.2.1 19 = .ok (.iconst 0, 1) := by decide +kernel
theorem d_X12_text_20 : decode mX12_text.2.2.1 20 = .ok (.putfield 36, 3) := by decide +kernel
theorem d_X12_text_23 : decode mX12_text.2.2.1 23 = .ok (.aload_n 0, 1) := by decide +kernel
theorem d_X12_text_24 : decode mX12_text.2.2.1 24 = .ok (.iconst (-1), 1) := by decide +kernel
theorem d_X12_text_25 : decode mX12_text.2.2.1 25 = .ok (.putfield 39, 3) := by decide +kernel
theorem d_X12_text_28 : decode mX12_text.2.2.1 28 = .ok (.aload_n 0, 1) := by decide +kernel
theorem d_X12_text_29 : decode mX12_text.2.2.1 29 = .ok (.iconst 1, 1) := by decide +kernel
theorem d_X12_text_30 : decode mX12_text.2.2.1 30 = .ok (.aload_n 0, 1) := by decide +kernel
theorem d_X12_text_31 : decode mX12_text.2.2.1 31 = .ok (.getfield 48, 3) := by decide +kernel
theorem d_X12_text_34 : decode mX12_text.2.2.1 34 = .ok (.isub, 1) := by decide +kernel
theorem d_X12_text_35 : decode mX12_text.2.2.1 35 = .ok (.putfield 124, 3) := by decide +kernel
theorem d_X12_text_38 : decode mX12_text.2.2.1 38 = .ok (.aload_n 0, 1) := by decide +kernel
theorem d_X12_text_39 : decode mX12_text.2.2.1 39 = .ok (.getfield 51, 3) := by decide +kernel
theorem d_X12_text_42 : decode mX12_text.2.2.1 42 = .ok (.aload_n 0, 1) := by decide +kernel
theorem d_X12_text_43 : decode mX12_text.2.2.1 43 = .ok (.getfield 124, 3) := by decide +kernel
theorem d_X12_text_46 : decode mX12_text.2.2.1 46 = .ok (.iconst 1, 1) := by decide +kernel
theorem d_X12_text_47 : decode mX12_text.2.2.1 47 = .ok (.iastore, 1) := by decide +kernel
theorem d_X12_text_48 : decode mX12_text.2.2.1 48 = .ok (.aload_n 0, 1) := by decide +kernel
theorem d_X12_text_49 : decode mX12_text.2.2.1 49 = .ok (.getfield 54, 3) := by decide +kernel
theorem d_X12_text_52 : decode mX12_text.2.2.1 52 = .ok (.aload_n 0, 1) := by decide +kernel
theorem d_X12_text_53 : decode mX12_text.2.2.1 53 = .ok (.getfield 124, 3) := by decide +kernel
theorem d_X12_text_56 : decode mX12_text.2.2.1 56 = .ok (.iconst 1, 1) := by decide +kernel
theorem d_X12_text_57 : decode mX12_text.2.2.1 57 = .ok (.iastore, 1) := by decide +kernel
theorem d_X12_text_58 : decode mX12_text.2.2.1 58 = .ok (.aload_n 0, 1) := by decide +kernel
theorem d_X12_text_59 : decode mX12_text.2.2.1 59 = .ok (.getfield 57, 3) := by decide +kernel
theorem d_X12_text_62 : decode mX12_text.2.2.1 62 = .ok (.aload_n 0, 1) := by decide +kernel
theorem d_X12_text_63 : decode mX12_text.2.2.1 63 = .ok (.getfield 124, 3) := by decide +kernel
theorem d_X12_text_66 : decode mX12_text.2.2.1 66 = .ok (.iconst 1, 1) := by decide +kernel
theorem d_X12_text_67 : decode mX12_text.2.2.1 67 = .ok (.iastore, 1) := by decide +kernel
theorem d_X12_text_68 : decode mX12_text.2.2.1 68 = .ok (.aload_n 0, 1) := by decide +kernel
theorem d_X12_text_69 : decode mX12_text.2.2.1 69 = .ok (.getfield 60, 3) := by decide +kernel
theorem d_X12_text_72 : decode mX12_text.2.2.1 72 = .ok (.aload_n 0, 1) := by decide +kernel
theorem d_X12_text_73 : decode mX12_text.2.2.1 73 = .ok (.getfield 124, 3) := by decide +kernel
theorem d_X12_text_76 : decode mX12_text.2.2.1 76 = .ok (.iconst 0, 1) := by decide +kernel
theorem d_X12_text_77 : decode mX12_text.2.2.1 77 = .ok (.iastore, 1) := by decide +kernel
theorem d_X12_text_78 : decode mX12_text.2.2.1 78 = .ok (.aload_n 0, 1) := by decide +kernel
theorem d_X12_text_79 : decode mX12_text.2.2.1 79 = .ok (.getfield 63, 3) := by decide +kernel
theorem d_X12_text_82 : decode mX12_text.2.2.1 82 = .ok (.aload_n 0, 1) := by decide +kernel
theorem d_X12_text_83 : decode mX12_text.2.2.1 83 = .ok (.getfield 124, 3) := by decide +kernel
theorem d_X12_text_86 : decode mX12_text.2.2.1 86 = .ok (.iconst 0, 1) := by decide +kernel
theorem d_X12_text_87 : decode mX12_text.2.2.1 87 = .ok (.iastore, 1) := by decide +kernel
theorem d_X12_text_88 : decode mX12_text.2.2.1 88 = .ok (.aload_n 0, 1) := by decide +kernel
theorem d_X12_text_89 : decode mX12_text.2.2.1 89 = .ok (.getfield 66, 3) := by decide +kernel
theorem d_X12_text_92 : decode mX12_text.2.2.1 92 = .ok (.aload_n 0, 1) := by decide +kernel
theorem d_X12_text_93 : decode mX12_text.2.2.1 93 = .ok (.getfield 124, 3) := by decide +kernel
theorem d_X12_text_96 : decode mX12_text.2.2.1 96 = .ok (.iconst 0, 1) := by decide +kernel
theorem d_X12_text_97 : decode mX12_text.2.2.1 97 = .ok (.iastore, 1) := by decide +kernel
theorem d_X12_text_98 : decode mX12_text.2.2.1 98 = .ok (.aload_n 0, 1) := by decide +kernel
theorem d_X12_text_99 : decode mX12_text.2.2.1 99 = .ok (.getfield 69, 3) := by decide +kernel
theorem d_X12_text_102 : decode mX12_text.2.2.1 102 = .ok (.aload_n 0, 1) := by decide +kernel
theorem d_X12_text_103 : decode mX12_text.2.2.1 103 = .ok (.getfield 124, 3) := by decide +kernel
theorem d_X12_text_106 : decode mX12_text.2.2.1 106 = .ok (.iconst 0, 1) := by decide +kernel
theorem d_X12_text_107 : decode mX12_text.2.2.1 107 = .ok (.iastore, 1) := by decide +kernel
theorem d_X12_text_108 : decode mX12_text.2.2.1 108 = .ok (.aload_n 0, 1) := by decide +kernel
theorem d_X12_text_109 : decode mX12_text.2.2.1 109 = .ok (.getfield 72, 3) := by decide +kernel
theorem d_X12_text_112 : decode mX12_text.2.2.1 112 = .ok (.aload_n 0, 1) := by decide +kernel
theorem d_X12_text_113 : decode mX12_text.2.2.1 113 = .ok (.getfield 124, 3) := by decide +kernel
theorem d_X12_text_116 : decode mX12_text.2.2.1 116 = .ok (.iconst 0, 1) := by decide +kernel
theorem d_X12_text_117 : decode mX12_text.2.2.1 117 = .ok (.iastore, 1) := by decide +kernel
theorem d_X12_text_118 : decode mX12_text.2.2.1 118 = .ok (.aload_n 0, 1) := by decide +kernel
theorem d_X12_text_119 : decode mX12_text.2.2.1 119 = .ok (.getfield 94, 3) := by decide +kernel
theorem d_X12_text_122 : decode mX12_text.2.2.1 122 = .ok (.aload_n 0, 1) := by decide +kernel
theorem d_X12_text_123 : decode mX12_text.2.2.1 123 = .ok (.getfield 124, 3) := by decide +kernel
theorem d_X12_text_126 : decode mX12_text.2.2.1 126 = .ok (.iconst 0, 1) := by decide +kernel
theorem d_X12_text_127 : decode mX12_text.2.2.1 127 = .ok (.iastore, 1) := by decide +kernel
theorem d_X12_text_128 : decode mX12_text.2.2.1 128 = .ok (.aload_n 0, 1) := by decide +kernel
theorem d_X12_text_129 : decode mX12_text.2.2.1 129 = .ok (.iconst 0, 1) := by decide +kernel
theorem d_X12_text_130 : decode mX12_text.2.2.1 130 = .ok (.putfield 121, 3) := by decide +kernel
theorem d_X12_text_133 : decode mX12_text.2.2.1 133 = .ok (.aload_n 0, 1) := by decide +kernel
theorem d_X12_text_134 : decode mX12_text.2.2.1 134 = .ok (.iconst 0, 1) := by decide +kernel
theorem d_X12_text_135 : decode mX12_text.2.2.1 135 = .ok (.putfield 146, 3) := by decide +kernel
theorem d_X12_text_138 : decode mX12_text.2.2.1 138 = .ok (.aload_n 0, 1) := by decide +kernel
theorem d_X12_text_139 : decode mX12_text.2.2.1 139 = .ok (.iconst 0, 1) := by decide +kernel
theorem d_X12_text_140 : decode mX12_text.2.2.1 140 = .ok (.putfield 165, 3) := by decide +kernel
theorem d_X12_text_143 : decode mX12_text.2.2.1 143 = .ok (.aload_n 0, 1) := by decide +kernel
theorem d_X12_text_144 : decode mX12_text.2.2.1 144 = .ok (.invokevirtual 396, 3) := by decide +kernel
def mX12_next : MD := (12, yX12_next, cX12_next, 6, none)
theorem sel_X12_next : Cond.instanceMethod mX12_next.2.1 ∈ tblG ∧ Cond.selects mX12_next.2.1.cls mX12_next.2.1 mX12_next.2.1 ∈ tblG := ⟨tblG_in (inT8 (List.mem_of_getElem? (i := 94) rfl)) rfl, tblG_in (inP5 (q := (mX12_next.2.1, 121)) (List.mem_of_getElem? (i := 9) rfl)) rfl⟩
theorem s_12_396 : e_siteV 12 396 mX12_next 12 := ⟨tblG_in (inT8 (List.mem_of_getElem? (i := 92) rfl)) rfl, sel_X12_next.1, sel_X12_next.2, rfl⟩
theorem d_X12_next_0 : decode mX12_next.2.2.1 0 = .ok (.aload_n 0, 1) := by decide +kernel
theorem d_X12_next_1 : decode mX12_next.2.2.1 1 = .ok (.getfield 26, 3) := by decide +kernel
theorem d_X12_next_4 : decode mX12_next.2.2.1 4 = .ok (.istore_n 1, 1) := by decide +kernel
theorem d_X12_next_5 : decode mX12_next.2.2.1 5 = .ok (.iload_n 1, 1) := by decide +kernel
theorem d_X12_next_6 : decode mX12_next.2.2.1 6 = .ok (.aload_n 0, 1) := by decide +kernel
theorem d_X12_next_7 : decode mX12_next.2.2.1 7 = .ok (.getfield 17, 3) := by decide +kernel
theorem d_X12_next_10 : decode mX12_next.2.2.1 10 = .ok (.if_icmp .ge 31, 3) := by decide +kernel
theorem d_X12_next_13 : decode mX12_next.2.2.1 13 = .ok (.aload_n 0, 1) := by decide +kernel
theorem d_X12_next_14 : decode mX12_next.2.2.1 14 = .ok (.getfield 7, 3) := by decide +kernel
theorem d_X12_next_17 : decode mX12_next.2.2.1 17 = .ok (.iload_n 1, 1) := by decide +kernel
theorem d_X12_next_18 : decode mX12_next.2.2.1 18 = .ok (.iaload, 1) := by decide +kernel
theorem d_X12_next_19 : decode mX12_next.2.2.1 19 = .ok (.bipush 32, 2) := by decide +kernel
theorem d_X12_next_21 : decode mX12_next.2.2.1 21 = .ok (.if_icmp .eq 14, 3) := by decide +kernel
theorem d_X12_next_24 : decode mX12_next.2.2.1 24 = .ok (.aload_n 0, 1) := by decide +kernel
theorem d_X12_next_25 : decode mX12_next.2.2.1 25 = .ok (.getfield 7, 3) := by decide +kernel
theorem d_X12_next_28 : decode mX12_next.2.2.1 28 = .ok (.iload_n 1, 1) := by decide +kernel
theorem d_X12_next_29 : decode mX12_next.2.2.1 29 = .ok (.iaload, 1) := by decide +kernel
theorem d_X12_next_30 : decode mX12_next.2.2.1 30 = .ok (.bipush 10, 2) := by decide +kernel
theorem d_X12_next_32 : decode mX12_next.2.2.1 32 = .ok (.if_icmp .ne 9, 3) := by decide +kernel
theorem d_X12_next_41 : decode mX12_next.2.2.1 41 = .ok (.aload_n 0, 1) := by decide +kernel
theorem d_X12_next_42 : decode mX12_next.2.2.1 42 = .ok (.iload_n 1, 1) := by decide +kernel
theorem d_X12_next_43 : decode mX12_next.2.2.1 43 = .ok (.putfield 23, 3) := by decide +kernel
theorem d_X12_next_46 : decode mX12_next.2.2.1 46 = .ok (.aload_n 0, 1) := by decide +kernel
theorem d_X12_next_47 : decode mX12_next.2.2.1 47 = .ok (.iload_n 1, 1) := by decide +kernel
theorem d_X12_next_48 : decode mX12_next.2.2.1 48 = .ok (.putfield 26, 3) := by decide +kernel
theorem d_X12_next_51 : decode mX12_next.2.2.1 51 = .ok (.aload_n 0, 1) := by decide +kernel
theorem d_X12_next_52 : decode mX12_next.2.2.1 52 = .ok (.iconst 0, 1) := by decide +kernel
theorem d_X12_next_53 : decode mX12_next.2.2.1 53 = .ok (.putfield 20, 3) := by decide +kernel
theorem d_X12_next_56 : decode mX12_next.2.2.1 56 = .ok (.iload_n 1, 1) := by decide +kernel
theorem d_X12_next_57 : decode mX12_next.2.2.1 57 = .ok (.aload_n 0, 1) := by decide +kernel
theorem d_X12_next_58 : decode mX12_next.2.2.1 58 = .ok (.getfield 17, 3) := by decide +kernel
theorem d_X12_next_61 : decode mX12_next.2.2.1 61 = .ok (.if_icmp .lt 4, 3) := by decide +kernel
theorem d_X12_next_65 : decode mX12_next.2.2.1 65 = .ok (.aload_n 0, 1) := by decide +kernel
theorem d_X12_next_66 : decode mX12_next.2.2.1 66 = .ok (.getfield 7, 3) := by decide +kernel
theorem d_X12_next_69 : decode mX12_next.2.2.1 69 = .ok (.iload_n 1, 1) := by decide +kernel
theorem d_X12_next_70 : decode mX12_next.2.2.1 70 = .ok (.iaload, 1) := by decide +kernel
theorem d_X12_next_71 : decode mX12_next.2.2.1 71 = .ok (.invokestatic 382, 3) := by decide +kernel
def mX12_isLetter : MD := (12, yX12_isLetter, cX12_isLetter, 1, some .boolean)
theorem s_12_382 : e_siteS 12 382 mX12_isLetter := ⟨tblG_in (inT8 (List.mem_of_getElem? (i := 96) rfl)) rfl, tblG_in (inT8 (List.mem_of_getElem? (i := 97) rfl)) rfl⟩
theorem d_X12_isLetter_0 : decode mX12_isLetter.2.2.1 0 = .ok (.iload_n 0, 1) := by decide +kernel
theorem d_X12_isLetter_1 : decode mX12_isLetter.2.2.1 1 = .ok (.bipush 97, 2) := by decide +kernel
theorem d_X12_isLetter_3 : decode mX12_isLetter.2.2.1 3 = .ok (.if_icmp .lt 13, 3) := by decide +kernel
theorem d_X12_isLetter_16 : decode mX12_isLetter.2.2.1 16 = .ok (.iconst 0, 1) := by decide +kernel
theorem d_X12_isLetter_17 : decode mX12_isLetter.2.2.1 17 = .ok (.ireturn, 1) := by decide +kernel
theorem d_X12_isLetter_6 : decode mX12_isLetter.2.2.1 6 = .ok (.iload_n 0, 1) := by decide +kernel
theorem d_X12_isLetter_7 : decode mX12_isLetter.2.2.1 7 = .ok (.bipush 122, 2) := by decide +kernel
theorem d_X12_isLetter_9 : decode mX12_isLetter.2.2.1 9 = .ok (.if_icmp .gt 7, 3) := by decide +kernel
theorem d_X12_isLetter_12 : decode mX12_isLetter.2.2.1 12 = .ok (.iconst 1, 1) := by decide +kernel
theorem d_X12_isLetter_13 : decode mX12_isLetter.2.2.1 13 = .ok (.goto 4, 3) := by decide +kernel
theorem ok_X12_isLetter : e_m mX12_isLetter 1 := ⟨tblG_in (inT8 (List.mem_of_getElem? (i := 98) rfl)) rfl, plainFor_of_name (by decide), rfl, ini_12, by decide +kernel, by decide⟩
theorem d_X12_next_74 : decode mX12_next.2.2.1 74 = .ok (.istore_n 2, 1) := by decide +kernel
theorem d_X12_next_75 : decode mX12_next.2.2.1 75 = .ok (.aload_n 0, 1) := by decide +kernel
theorem d_X12_next_76 : decode mX12_next.2.2.1 76 = .ok (.getfield 7, 3) := by decide +kernel
theorem d_X12_next_79 : decode mX12_next.2.2.1 79 = .ok (.iload_n 1, 1) := by decide +kernel
theorem d_X12_next_80 : decode mX12_next.2.2.1 80 = .ok (.iaload, 1) := by decide +kernel
theorem d_X12_next_81 : decode mX12_next.2.2.1 81 = .ok (.invokestatic 386, 3) := by decide +kernel
def mX12_isDigit : MD := (12, yX12_isDigit, cX12_isDigit, 1, some .boolean)
theorem s_12_386 : e_siteS 12 386 mX12_isDigit := ⟨tblG_in (inT8 (List.mem_of_getElem? (i := 99) rfl)) rfl, tblG_in (inT8 (List.mem_of_getElem? (i := 100) rfl)) rfl⟩
theorem d_X12_isDigit_0 : decode mX12_isDigit.2.2.1 0 = .ok (.iload_n 0, 1) := by decide +kernel
theorem d_X12_isDigit_1 : decode mX12_isDigit.2.2.1 1 = .ok (.bipush 48, 2) := by decide +kernel
theorem d_X12_isDigit_3 : decode mX12_isDigit.2.2.1 3 = .ok (.if_icmp .lt 13, 3) := by decide +kernel
theorem d_X12_isDigit_16 : decode mX12_isDigit.2.2.1 16 = .ok (.iconst 0, 1) := by decide +kernel
theorem d_X12_isDigit_17 : decode mX12_isDigit.2.2.1 17 = .ok (.ireturn, 1) := by decide +kernel
theorem d_X12_isDigit_6 : decode mX12_isDigit.2.2.1 6 = .ok (.iload_n 0, 1) := by decide +kernel
theorem d_X12_isDigit_7 : decode mX12_isDigit.2.2.1 7 = .ok (.bipush 57, 2) := by decide +kernel
theorem d_X12_isDigit_9 : decode mX12_isDigit.2.2.1 9 = .ok (.if_icmp .gt 7, 3) := by decide +kernel
theorem d_X12_isDigit_12 : decode mX12_isDigit.2.2.1 12 = .ok (.iconst 1, 1) := by decide +kernel
theorem d_X12_isDigit_13 : decode mX12_isDigit.2.2.1 13 = .ok (.goto 4, 3) := by decide +kernel
theorem ok_X12_isDigit : e_m mX12_isDigit 1 := ⟨tblG_in (inT8 (List.mem_of_getElem? (i := 101) rfl)) rfl, plainFor_of_name (by decide), rfl, ini_12, by decide +kernel, by decide⟩
theorem d_X12_next_84 : decode mX12_next.2.2.1 84 = .ok (.istore_n 3, 1) := by decide +kernel
theorem d_X12_next_85 : decode mX12_next.2.2.1 85 = .ok (.iload_n 2, 1) := by decide +kernel
theorem d_X12_next_86 : decode mX12_next.2.2.1 86 = .ok (.ifCond .ne 7, 3) := by decide +kernel
theorem d_X12_next_89 : decode mX12_next.2.2.1 89 = .ok (.iload_n 3, 1) := by decide +kernel
theorem d_X12_next_90 : decode mX12_next.2.2.1 90 = .ok (.ifCond .eq 41, 3) := by decide +kernel
theorem d_X12_next_64 : decode mX12_next.2.2.1 64 = .ok (.return_, 1) := by decide +kernel
theorem d_X12_next_93 : decode mX12_next.2.2.1 93 = .ok (.iload_n 1, 1) := by decide +kernel
theorem d_X12_next_94 : decode mX12_next.2.2.1 94 = .ok (.ifCond .le 37, 3) := by decide +kernel
theorem d_X12_next_97 : decode mX12_next.2.2.1 97 = .ok (.aload_n 0, 1) := by decide +kernel
theorem d_X12_next_98 : decode mX12_next.2.2.1 98 = .ok (.getfield 7, 3) := by decide +kernel
theorem d_X12_next_101 : decode mX12_next.2.2.1 101 = .ok (.iload_n 1, 1) := by decide +kernel
theorem d_X12_next_102 : decode mX12_next.2.2.1 102 = .ok (.iconst 1, 1) := by decide +kernel
theorem d_X12_next_103 : decode mX12_next.2.2.1 103 = .ok (.isub, 1) := by decide +kernel
theorem d_X12_next_104 : decode mX12_next.2.2.1 104 = .ok (.iaload, 1) := by decide +kernel
theorem d_X12_next_105 : decode mX12_next.2.2.1 105 = .ok (.invokestatic 382, 3) := by decide +kernel
theorem d_X12_next_108 : decode mX12_next.2.2.1 108 = .ok (.ifCond .ne 17, 3) := by decide +kernel
theorem d_X12_next_111 : decode mX12_next.2.2.1 111 = .ok (.aload_n 0, 1) := by decide +kernel
theorem d_X12_next_112 : decode mX12_next.2.2.1 112 = .ok (.getfield 7, 3) := by decide +kernel
theorem d_X12_next_115 : decode mX12_next.2.2.1 115 = .ok (.iload_n 1, 1) := by decide +kernel
theorem d_X12_next_116 : decode mX12_next.2.2.1 116 = .ok (.iconst 1, 1) := by decide +kernel
theorem d_X12_next_117 : decode mX12_next.2.2.1 117 = .ok (.isub, 1) := by decide +kernel
theorem d_X12_next_118 : decode mX12_next.2.2.1 118 = .ok (.iaload, 1) := by decide +kernel
theorem d_X12_next_119 : decode mX12_next.2.2.1 119 = .ok (.invokestatic 386, 3) := by decide +kernel
theorem d_X12_next_122 : decode mX12_next.2.2.1 122 = .ok (.ifCond .eq 9, 3) := by decide +kernel
theorem d_X12_next_125 : decode mX12_next.2.2.1 125 = .ok (.aload_n 0, 1) := by decide +kernel
theorem d_X12_next_126 : decode mX12_next.2.2.1 126 = .ok (.iconst 1, 1) := by decide +kernel
theorem d_X12_next_127 : decode mX12_next.2.2.1 127 = .ok (.iload_n 1, 1) := by decide +kernel
theorem d_X12_next_128 : decode mX12_next.2.2.1 128 = .ok (.invokevirtual 389, 3) := by decide +kernel
def mX12_blame : MD := (12, yX12_blame, cX12_blame, 3, none)
theorem sel_X12_blame : Cond.instanceMethod mX12_blame.2.1 ∈ tblG ∧ Cond.selects mX12_blame.2.1.cls mX12_blame.2.1 mX12_blame.2.1 ∈ tblG := ⟨tblG_in (inT8 (List.mem_of_getElem? (i := 104) rfl)) rfl, tblG_in (inP5 (q := (mX12_blame.2.1, 121)) (List.mem_of_getElem? (i := 10) rfl)) rfl⟩
theorem s_12_389 : e_siteV 12 389 mX12_blame 12 := ⟨tblG_in (inT8 (List.mem_of_getElem? (i := 102) rfl)) rfl, sel_X12_blame.1, sel_X12_blame.2, rfl⟩
theorem d_X12_blame_0 : decode mX12_blame.2.2.1 0 = .ok (.aload_n 0, 1) := by decide +kernel
theorem d_X12_blame_1 : decode mX12_blame.2.2.1 1 = .ok (.getfield 36, 3) := by decide +kernel
theorem d_X12_blame_4 : decode mX12_blame.2.2.1 4 = .ok (.ifCond .le 4, 3) := by decide +kernel
theorem d_X12_blame_8 : decode mX12_blame.2.2.1 8 = .ok (.aload_n 0, 1) := by decide +kernel
theorem d_X12_blame_9 : decode mX12_blame.2.2.1 9 = .ok (.iload_n 1, 1) := by decide +kernel
theorem d_X12_blame_10 : decode mX12_blame.2.2.1 10 = .ok (.putfield 36, 3) := by decide +kernel
theorem d_X12_blame_13 : decode mX12_blame.2.2.1 13 = .ok (.aload_n 0, 1) := by decide +kernel
theorem d_X12_blame_14 : decode mX12_blame.2.2.1 14 = .ok (.iload_n 2, 1) := by decide +kernel
theorem d_X12_blame_15 : decode mX12_blame.2.2.1 15 = .ok (.putfield 39, 3) := by decide +kernel
theorem d_X12_blame_18 : decode mX12_blame.2.2.1 18 = .ok (.return_, 1) := by decide +kernel
theorem d_X12_blame_7 : decode mX12_blame.2.2.1 7 = .ok (.return_, 1) := by decide +kernel
theorem ok_X12_blame : e_m mX12_blame 2 := ⟨tblG_in (inT8 (List.mem_of_getElem? (i := 105) rfl)) rfl, plainFor_of_name (by decide), rfl, ini_12, by decide +kernel, by decide⟩
theorem d_X12_next_131 : decode mX12_next.2.2.1 131 = .ok (.aload_n 0, 1) := by decide +kernel
theorem d_X12_next_132 : decode mX12_next.2.2.1 132 = .ok (.iconst 0, 1) := by decide +kernel
theorem d_X12_next_133 : decode mX12_next.2.2.1 133 = .ok (.putfield 29, 3) := by decide +kernel
theorem d_X12_next_136 : decode mX12_next.2.2.1 136 = .ok (.aload_n 0, 1) := by decide +kernel
theorem d_X12_next_137 : decode mX12_next.2.2.1 137 = .ok (.lconst 0, 1) := by decide +kernel
end
/-! 35.14 -/
section
theorem d_X12_next_138 : decode mX12_next.2.2.1 138 = .ok (.putfield 32, 3) := by decide +kernel
theorem d_X12_next_141 : decode mX12_next.2.2.1 141 = .ok (.aload_n 0, 1) := by decide +kernel
theorem d_X12_next_142 : decode mX12_next.2.2.1 142 = .ok (.iconst 3, 1) := by decide +kernel
theorem d_X12_next_143 : decode mX12_next.2.2.1 143 = .ok (.putfield 20, 3) := by decide +kernel
theorem d_X12_next_146 : decode mX12_next.2.2.1 146 = .ok (.aload_n 0, 1) := by decide +kernel
theorem d_X12_next_147 : decode mX12_next.2.2.1 147 = .ok (.iload_n 1, 1) := by decide +kernel
theorem d_X12_next_148 : decode mX12_next.2.2.1 148 = .ok (.iconst 1, 1) := by decide +kernel
theorem d_X12_next_149 : decode mX12_next.2.2.1 149 = .ok (.iadd, 1) := by decide +kernel
theorem d_X12_next_150 : decode mX12_next.2.2.1 150 = .ok (.putfield 26, 3) := by decide +kernel
theorem d_X12_next_153 : decode mX12_next.2.2.1 153 = .ok (.iload_n 2, 1) := by decide +kernel
theorem d_X12_next_154 : decode mX12_next.2.2.1 154 = .ok (.ifCond .ne 18, 3) := by decide +kernel
theorem d_X12_next_157 : decode mX12_next.2.2.1 157 = .ok (.iload_n 3, 1) := by decide +kernel
theorem d_X12_next_158 : decode mX12_next.2.2.1 158 = .ok (.ifCond .ne 14, 3) := by decide +kernel
theorem d_X12_next_161 : decode mX12_next.2.2.1 161 = .ok (.aload_n 0, 1) := by decide +kernel
theorem d_X12_next_162 : decode mX12_next.2.2.1 162 = .ok (.aload_n 0, 1) := by decide +kernel
theorem d_X12_next_163 : decode mX12_next.2.2.1 163 = .ok (.getfield 7, 3) := by decide +kernel
theorem d_X12_next_166 : decode mX12_next.2.2.1 166 = .ok (.iload_n 1, 1) := by decide +kernel
theorem d_X12_next_167 : decode mX12_next.2.2.1 167 = .ok (.iaload, 1) := by decide +kernel
theorem d_X12_next_168 : decode mX12_next.2.2.1 168 = .ok (.putfield 29, 3) := by decide +kernel
theorem d_X12_next_171 : decode mX12_next.2.2.1 171 = .ok (.return_, 1) := by decide +kernel
theorem d_X12_next_172 : decode mX12_next.2.2.1 172 = .ok (.aload_n 0, 1) := by decide +kernel
theorem d_X12_next_173 : decode mX12_next.2.2.1 173 = .ok (.iload_n 2, 1) := by decide +kernel
theorem d_X12_next_174 : decode mX12_next.2.2.1 174 = .ok (.ifCond .eq 7, 3) := by decide +kernel
theorem d_X12_next_181 : decode mX12_next.2.2.1 181 = .ok (.iconst 2, 1) := by decide +kernel
theorem d_X12_next_177 : decode mX12_next.2.2.1 177 = .ok (.iconst 1, 1) := by decide +kernel
theorem d_X12_next_178 : decode mX12_next.2.2.1 178 = .ok (.goto 4, 3) := by decide +kernel
theorem d_X12_next_182 : decode mX12_next.2.2.1 182 = .ok (.putfield 20, 3) := by decide +kernel
theorem d_X12_next_185 : decode mX12_next.2.2.1 185 = .ok (.iload_n 2, 1) := by decide +kernel
theorem d_X12_next_186 : decode mX12_next.2.2.1 186 = .ok (.ifCond .eq 8, 3) := by decide +kernel
theorem d_X12_next_194 : decode mX12_next.2.2.1 194 = .ok (.iconst 4, 1) := by decide +kernel
theorem d_X12_next_189 : decode mX12_next.2.2.1 189 = .ok (.bipush 6, 2) := by decide +kernel
theorem d_X12_next_191 : decode mX12_next.2.2.1 191 = .ok (.goto 4, 3) := by decide +kernel
theorem d_X12_next_195 : decode mX12_next.2.2.1 195 = .ok (.istore 4, 2) := by decide +kernel
theorem d_X12_next_197 : decode mX12_next.2.2.1 197 = .ok (.iconst 0, 1) := by decide +kernel
theorem d_X12_next_198 : decode mX12_next.2.2.1 198 = .ok (.istore 5, 2) := by decide +kernel
theorem d_X12_next_200 : decode mX12_next.2.2.1 200 = .ok (.iload_n 1, 1) := by decide +kernel
theorem d_X12_next_201 : decode mX12_next.2.2.1 201 = .ok (.aload_n 0, 1) := by decide +kernel
theorem d_X12_next_202 : decode mX12_next.2.2.1 202 = .ok (.getfield 17, 3) := by decide +kernel
theorem d_X12_next_205 : decode mX12_next.2.2.1 205 = .ok (.if_icmp .ge 118, 3) := by decide +kernel
theorem d_X12_next_323 : decode mX12_next.2.2.1 323 = .ok (.aload_n 0, 1) := by decide +kernel
theorem d_X12_next_324 : decode mX12_next.2.2.1 324 = .ok (.iload_n 1, 1) := by decide +kernel
theorem d_X12_next_325 : decode mX12_next.2.2.1 325 = .ok (.putfield 26, 3) := by decide +kernel
theorem d_X12_next_328 : decode mX12_next.2.2.1 328 = .ok (.return_, 1) := by decide +kernel
theorem d_X12_next_208 : decode mX12_next.2.2.1 208 = .ok (.iload_n 2, 1) := by decide +kernel
theorem d_X12_next_209 : decode mX12_next.2.2.1 209 = .ok (.ifCond .eq 18, 3) := by decide +kernel
theorem d_X12_next_227 : decode mX12_next.2.2.1 227 = .ok (.aload_n 0, 1) := by decide +kernel
theorem d_X12_next_228 : decode mX12_next.2.2.1 228 = .ok (.getfield 7, 3) := by decide +kernel
theorem d_X12_next_231 : decode mX12_next.2.2.1 231 = .ok (.iload_n 1, 1) := by decide +kernel
theorem d_X12_next_232 : decode mX12_next.2.2.1 232 = .ok (.iaload, 1) := by decide +kernel
theorem d_X12_next_233 : decode mX12_next.2.2.1 233 = .ok (.invokestatic 386, 3) := by decide +kernel
theorem d_X12_next_236 : decode mX12_next.2.2.1 236 = .ok (.ifCond .eq 87, 3) := by decide +kernel
theorem d_X12_next_212 : decode mX12_next.2.2.1 212 = .ok (.aload_n 0, 1) := by decide +kernel
theorem d_X12_next_213 : decode mX12_next.2.2.1 213 = .ok (.getfield 7, 3) := by decide +kernel
theorem d_X12_next_216 : decode mX12_next.2.2.1 216 = .ok (.iload_n 1, 1) := by decide +kernel
theorem d_X12_next_217 : decode mX12_next.2.2.1 217 = .ok (.iaload, 1) := by decide +kernel
theorem d_X12_next_218 : decode mX12_next.2.2.1 218 = .ok (.invokestatic 382, 3) := by decide +kernel
theorem d_X12_next_221 : decode mX12_next.2.2.1 221 = .ok (.ifCond .eq 102, 3) := by decide +kernel
theorem d_X12_next_224 : decode mX12_next.2.2.1 224 = .ok (.goto 15, 3) := by decide +kernel
theorem d_X12_next_239 : decode mX12_next.2.2.1 239 = .ok (.iload 5, 2) := by decide +kernel
theorem d_X12_next_241 : decode mX12_next.2.2.1 241 = .ok (.iload 4, 2) := by decide +kernel
theorem d_X12_next_243 : decode mX12_next.2.2.1 243 = .ok (.if_icmp .ne 9, 3) := by decide +kernel
theorem d_X12_next_252 : decode mX12_next.2.2.1 252 = .ok (.iload 5, 2) := by decide +kernel
theorem d_X12_next_254 : decode mX12_next.2.2.1 254 = .ok (.iload 4, 2) := by decide +kernel
theorem d_X12_next_256 : decode mX12_next.2.2.1 256 = .ok (.if_icmp .ge 26, 3) := by decide +kernel
theorem d_X12_next_259 : decode mX12_next.2.2.1 259 = .ok (.iload_n 2, 1) := by decide +kernel
theorem d_X12_next_260 : decode mX12_next.2.2.1 260 = .ok (.ifCond .eq 22, 3) := by decide +kernel
theorem d_X12_next_263 : decode mX12_next.2.2.1 263 = .ok (.aload_n 0, 1) := by decide +kernel
theorem d_X12_next_264 : decode mX12_next.2.2.1 264 = .ok (.aload_n 0, 1) := by decide +kernel
theorem d_X12_next_265 : decode mX12_next.2.2.1 265 = .ok (.getfield 32, 3) := by decide +kernel
theorem d_X12_next_268 : decode mX12_next.2.2.1 268 = .ok (.bipush 8, 2) := by decide +kernel
theorem d_X12_next_270 : decode mX12_next.2.2.1 270 = .ok (.lshl, 1) := by decide +kernel
theorem d_X12_next_271 : decode mX12_next.2.2.1 271 = .ok (.aload_n 0, 1) := by decide +kernel
theorem d_X12_next_272 : decode mX12_next.2.2.1 272 = .ok (.getfield 7, 3) := by decide +kernel
theorem d_X12_next_275 : decode mX12_next.2.2.1 275 = .ok (.iload_n 1, 1) := by decide +kernel
theorem d_X12_next_276 : decode mX12_next.2.2.1 276 = .ok (.iaload, 1) := by decide +kernel
theorem d_X12_next_277 : decode mX12_next.2.2.1 277 = .ok (.i2l, 1) := by decide +kernel
theorem d_X12_next_278 : decode mX12_next.2.2.1 278 = .ok (.lor, 1) := by decide +kernel
theorem d_X12_next_279 : decode mX12_next.2.2.1 279 = .ok (.putfield 32, 3) := by decide +kernel
theorem d_X12_next_282 : decode mX12_next.2.2.1 282 = .ok (.iload 5, 2) := by decide +kernel
theorem d_X12_next_284 : decode mX12_next.2.2.1 284 = .ok (.iload 4, 2) := by decide +kernel
theorem d_X12_next_286 : decode mX12_next.2.2.1 286 = .ok (.if_icmp .ge 28, 3) := by decide +kernel
theorem d_X12_next_289 : decode mX12_next.2.2.1 289 = .ok (.iload_n 3, 1) := by decide +kernel
theorem d_X12_next_290 : decode mX12_next.2.2.1 290 = .ok (.ifCond .eq 24, 3) := by decide +kernel
theorem d_X12_next_293 : decode mX12_next.2.2.1 293 = .ok (.aload_n 0, 1) := by decide +kernel
theorem d_X12_next_294 : decode mX12_next.2.2.1 294 = .ok (.bipush 10, 2) := by decide +kernel
theorem d_X12_next_296 : decode mX12_next.2.2.1 296 = .ok (.aload_n 0, 1) := by decide +kernel
theorem d_X12_next_297 : decode mX12_next.2.2.1 297 = .ok (.getfield 29, 3) := by decide +kernel
theorem d_X12_next_300 : decode mX12_next.2.2.1 300 = .ok (.imul, 1) := by decide +kernel
theorem d_X12_next_301 : decode mX12_next.2.2.1 301 = .ok (.aload_n 0, 1) := by decide +kernel
theorem d_X12_next_302 : decode mX12_next.2.2.1 302 = .ok (.getfield 7, 3) := by decide +kernel
theorem d_X12_next_305 : decode mX12_next.2.2.1 305 = .ok (.iload_n 1, 1) := by decide +kernel
theorem d_X12_next_306 : decode mX12_next.2.2.1 306 = .ok (.iaload, 1) := by decide +kernel
theorem d_X12_next_307 : decode mX12_next.2.2.1 307 = .ok (.iadd, 1) := by decide +kernel
theorem d_X12_next_308 : decode mX12_next.2.2.1 308 = .ok (.bipush 48, 2) := by decide +kernel
theorem d_X12_next_310 : decode mX12_next.2.2.1 310 = .ok (.isub, 1) := by decide +kernel
theorem d_X12_next_311 : decode mX12_next.2.2.1 311 = .ok (.putfield 29, 3) := by decide +kernel
theorem d_X12_next_314 : decode mX12_next.2.2.1 314 = .ok (.iinc 5 1, 3) := by decide +kernel
theorem d_X12_next_317 : decode mX12_next.2.2.1 317 = .ok (.iinc 1 1, 3) := by decide +kernel
theorem d_X12_next_320 : decode mX12_next.2.2.1 320 = .ok (.goto (-120), 3) := by decide +kernel
theorem d_X12_next_246 : decode mX12_next.2.2.1 246 = .ok (.aload_n 0, 1) := by decide +kernel
theorem d_X12_next_247 : decode mX12_next.2.2.1 247 = .ok (.iconst 1, 1) := by decide +kernel
theorem d_X12_next_248 : decode mX12_next.2.2.1 248 = .ok (.iload_n 1, 1) := by decide +kernel
theorem d_X12_next_249 : decode mX12_next.2.2.1 249 = .ok (.invokevirtual 389, 3) := by decide +kernel
theorem d_X12_next_35 : decode mX12_next.2.2.1 35 = .ok (.iinc 1 1, 3) := by decide +kernel
theorem d_X12_next_38 : decode mX12_next.2.2.1 38 = .ok (.goto (-33), 3) := by decide +kernel
theorem ok_X12_next : e_m mX12_next 0 := ⟨tblG_in (inT8 (List.mem_of_getElem? (i := 95) rfl)) rfl, plainFor_of_name (by decide), rfl, ini_12, by decide +kernel, by decide⟩
theorem d_X12_text_147 : decode mX12_text.2.2.1 147 = .ok (.iconst 1, 1) := by decide +kernel
theorem d_X12_text_148 : decode mX12_text.2.2.1 148 = .ok (.istore_n 1, 1) := by decide +kernel
theorem d_X12_text_149 : decode mX12_text.2.2.1 149 = .ok (.aload_n 0, 1) := by decide +kernel
theorem d_X12_text_150 : decode mX12_text.2.2.1 150 = .ok (.getfield 36, 3) := by decide +kernel
theorem d_X12_text_153 : decode mX12_text.2.2.1 153 = .ok (.ifCond .ne 30, 3) := by decide +kernel
theorem d_X12_text_156 : decode mX12_text.2.2.1 156 = .ok (.iload_n 1, 1) := by decide +kernel
theorem d_X12_text_157 : decode mX12_text.2.2.1 157 = .ok (.ifCond .eq 26, 3) := by decide +kernel
theorem d_X12_text_160 : decode mX12_text.2.2.1 160 = .ok (.aload_n 0, 1) := by decide +kernel
theorem d_X12_text_161 : decode mX12_text.2.2.1 161 = .ok (.getfield 20, 3) := by decide +kernel
theorem d_X12_text_164 : decode mX12_text.2.2.1 164 = .ok (.ifCond .eq 14, 3) := by decide +kernel
theorem d_X12_text_167 : decode mX12_text.2.2.1 167 = .ok (.aload_n 0, 1) := by decide +kernel
theorem d_X12_text_168 : decode mX12_text.2.2.1 168 = .ok (.invokevirtual 544, 3) := by decide +kernel
def mX12_declares : MD := (12, yX12_declares, cX12_declares, 1, some .boolean)
theorem sel_X12_declares : Cond.instanceMethod mX12_declares.2.1 ∈ tblG ∧ Cond.selects mX12_declares.2.1.cls mX12_declares.2.1 mX12_declares.2.1 ∈ tblG := ⟨tblG_in (inT8 (List.mem_of_getElem? (i := 108) rfl)) rfl, tblG_in (inP5 (q := (mX12_declares.2.1, 121)) (List.mem_of_getElem? (i := 11) rfl)) rfl⟩
theorem s_12_544 : e_siteV 12 544 mX12_declares 12 := ⟨tblG_in (inT8 (List.mem_of_getElem? (i := 106) rfl)) rfl, sel_X12_declares.1, sel_X12_declares.2, rfl⟩
theorem d_X12_declares_0 : decode mX12_declares.2.2.1 0 = .ok (.aload_n 0, 1) := by decide +kernel
theorem d_X12_declares_1 : decode mX12_declares.2.2.1 1 = .ok (.ldc2_w 399, 3) := by decide +kernel
theorem kl_12_399 : Jvm.Cond.constantLong (e_cn 12) 399 (Int64.ofInt 448377483892) ∈ tblG := tblG_in (inT8 (List.mem_of_getElem? (i := 110) rfl)) rfl
theorem d_X12_declares_4 : decode mX12_declares.2.2.1 4 = .ok (.invokevirtual 484, 3) := by decide +kernel
def mX12_isWord : MD := (12, yX12_isWord, cX12_isWord, 3, some .boolean)
theorem sel_X12_isWord : Cond.instanceMethod mX12_isWord.2.1 ∈ tblG ∧ Cond.selects mX12_isWord.2.1.cls mX12_isWord.2.1 mX12_isWord.2.1 ∈ tblG := ⟨tblG_in (inT8 (List.mem_of_getElem? (i := 113) rfl)) rfl, tblG_in (inP5 (q := (mX12_isWord.2.1, 121)) (List.mem_of_getElem? (i := 12) rfl)) rfl⟩
theorem s_12_484 : e_siteV 12 484 mX12_isWord 12 := ⟨tblG_in (inT8 (List.mem_of_getElem? (i := 111) rfl)) rfl, sel_X12_isWord.1, sel_X12_isWord.2, rfl⟩
theorem d_X12_isWord_0 : decode mX12_isWord.2.2.1 0 = .ok (.aload_n 0, 1) := by decide +kernel
theorem d_X12_isWord_1 : decode mX12_isWord.2.2.1 1 = .ok (.getfield 20, 3) := by decide +kernel
theorem d_X12_isWord_4 : decode mX12_isWord.2.2.1 4 = .ok (.iconst 1, 1) := by decide +kernel
theorem d_X12_isWord_5 : decode mX12_isWord.2.2.1 5 = .ok (.if_icmp .ne 16, 3) := by decide +kernel
theorem d_X12_isWord_21 : decode mX12_isWord.2.2.1 21 = .ok (.iconst 0, 1) := by decide +kernel
theorem d_X12_isWord_22 : decode mX12_isWord.2.2.1 22 = .ok (.ireturn, 1) := by decide +kernel
theorem d_X12_isWord_8 : decode mX12_isWord.2.2.1 8 = .ok (.aload_n 0, 1) := by decide +kernel
theorem d_X12_isWord_9 : decode mX12_isWord.2.2.1 9 = .ok (.getfield 32, 3) := by decide +kernel
theorem d_X12_isWord_12 : decode mX12_isWord.2.2.1 12 = .ok (.lload_n 1, 1) := by decide +kernel
theorem d_X12_isWord_13 : decode mX12_isWord.2.2.1 13 = .ok (.lcmp, 1) := by decide +kernel
theorem d_X12_isWord_14 : decode mX12_isWord.2.2.1 14 = .ok (.ifCond .ne 7, 3) := by decide +kernel
theorem d_X12_isWord_17 : decode mX12_isWord.2.2.1 17 = .ok (.iconst 1, 1) := by decide +kernel
theorem d_X12_isWord_18 : decode mX12_isWord.2.2.1 18 = .ok (.goto 4, 3) := by decide +kernel
theorem ok_X12_isWord : e_m mX12_isWord 1 := ⟨tblG_in (inT8 (List.mem_of_getElem? (i := 114) rfl)) rfl, plainFor_of_name (by decide), rfl, ini_12, by decide +kernel, by decide⟩
theorem d_X12_declares_7 : decode mX12_declares.2.2.1 7 = .ok (.ifCond .eq 27, 3) := by decide +kernel
theorem d_X12_declares_34 : decode mX12_declares.2.2.1 34 = .ok (.aload_n 0, 1) := by decide +kernel
theorem d_X12_declares_35 : decode mX12_declares.2.2.1 35 = .ok (.ldc2_w 401, 3) := by decide +kernel
theorem kl_12_401 : Jvm.Cond.constantLong (e_cn 12) 401 (Int64.ofInt 426835667045) ∈ tblG := tblG_in (inT8 (List.mem_of_getElem? (i := 122) rfl)) rfl
theorem d_X12_declares_38 : decode mX12_declares.2.2.1 38 = .ok (.invokevirtual 484, 3) := by decide +kernel
theorem d_X12_declares_41 : decode mX12_declares.2.2.1 41 = .ok (.ifCond .eq 58, 3) := by decide +kernel
theorem d_X12_declares_99 : decode mX12_declares.2.2.1 99 = .ok (.aload_n 0, 1) := by decide +kernel
theorem d_X12_declares_100 : decode mX12_declares.2.2.1 100 = .ok (.ldc2_w 403, 3) := by decide +kernel
theorem kl_12_403 : Jvm.Cond.constantLong (e_cn 12) 403 (Int64.ofInt 1885434484) ∈ tblG := tblG_in (inT8 (List.mem_of_getElem? (i := 123) rfl)) rfl
theorem d_X12_declares_103 : decode mX12_declares.2.2.1 103 = .ok (.invokevirtual 484, 3) := by decide +kernel
theorem d_X12_declares_106 : decode mX12_declares.2.2.1 106 = .ok (.ifCond .eq 10, 3) := by decide +kernel
theorem d_X12_declares_116 : decode mX12_declares.2.2.1 116 = .ok (.aload_n 0, 1) := by decide +kernel
theorem d_X12_declares_117 : decode mX12_declares.2.2.1 117 = .ok (.ldc2_w 415, 3) := by decide +kernel
theorem kl_12_415 : Jvm.Cond.constantLong (e_cn 12) 415 (Int64.ofInt 452824429940) ∈ tblG := tblG_in (inT8 (List.mem_of_getElem? (i := 145) rfl)) rfl
theorem d_X12_declares_120 : decode mX12_declares.2.2.1 120 = .ok (.invokevirtual 484, 3) := by decide +kernel
theorem d_X12_declares_123 : decode mX12_declares.2.2.1 123 = .ok (.ifCond .eq 10, 3) := by decide +kernel
theorem d_X12_declares_133 : decode mX12_declares.2.2.1 133 = .ok (.aload_n 0, 1) := by decide +kernel
theorem d_X12_declares_134 : decode mX12_declares.2.2.1 134 = .ok (.ldc2_w 417, 3) := by decide +kernel
theorem kl_12_417 : Jvm.Cond.constantLong (e_cn 12) 417 (Int64.ofInt 7758194) ∈ tblG := tblG_in (inT8 (List.mem_of_getElem? (i := 146) rfl)) rfl
theorem d_X12_declares_137 : decode mX12_declares.2.2.1 137 = .ok (.invokevirtual 484, 3) := by decide +kernel
theorem d_X12_declares_140 : decode mX12_declares.2.2.1 140 = .ok (.ifCond .eq 10, 3) := by decide +kernel
theorem d_X12_declares_150 : decode mX12_declares.2.2.1 150 = .ok (.iconst 0, 1) := by decide +kernel
theorem d_X12_declares_151 : decode mX12_declares.2.2.1 151 = .ok (.ireturn, 1) := by decide +kernel
theorem d_X12_declares_143 : decode mX12_declares.2.2.1 143 = .ok (.aload_n 0, 1) := by decide +kernel
theorem d_X12_declares_144 : decode mX12_declares.2.2.1 144 = .ok (.invokevirtual 526, 3) := by decide +kernel
def mX12_variable : MD := (12, yX12_variable, cX12_variable, 1, none)
theorem sel_X12_variable : Cond.instanceMethod mX12_variable.2.1 ∈ tblG ∧ Cond.selects mX12_variable.2.1.cls mX12_variable.2.1 mX12_variable.2.1 ∈ tblG := ⟨tblG_in (inT8 (List.mem_of_getElem? (i := 186) rfl)) rfl, tblG_in (inP6 (q := (mX12_variable.2.1, 121)) (List.mem_of_getElem? (i := 7) rfl)) rfl⟩
theorem s_12_526 : e_siteV 12 526 mX12_variable 12 := ⟨tblG_in (inT8 (List.mem_of_getElem? (i := 184) rfl)) rfl, sel_X12_variable.1, sel_X12_variable.2, rfl⟩
theorem d_X12_variable_0 : decode mX12_variable.2.2.1 0 = .ok (.aload_n 0, 1) := by decide +kernel
theorem d_X12_variable_1 : decode mX12_variable.2.2.1 1 = .ok (.aload_n 0, 1) := by decide +kernel
theorem d_X12_variable_2 : decode mX12_variable.2.2.1 2 = .ok (.getfield 69, 3) := by decide +kernel
theorem d_X12_variable_5 : decode mX12_variable.2.2.1 5 = .ok (.aload_n 0, 1) := by decide +kernel
theorem d_X12_variable_6 : decode mX12_variable.2.2.1 6 = .ok (.getfield 124, 3) := by decide +kernel
theorem d_X12_variable_9 : decode mX12_variable.2.2.1 9 = .ok (.iaload, 1) := by decide +kernel
theorem d_X12_variable_10 : decode mX12_variable.2.2.1 10 = .ok (.bipush 6, 2) := by decide +kernel
theorem d_X12_variable_12 : decode mX12_variable.2.2.1 12 = .ok (.if_icmp .ne 7, 3) := by decide +kernel
theorem d_X12_variable_19 : decode mX12_variable.2.2.1 19 = .ok (.iconst 0, 1) := by decide +kernel
theorem d_X12_variable_15 : decode mX12_variable.2.2.1 15 = .ok (.iconst 1, 1) := by decide +kernel
theorem d_X12_variable_16 : decode mX12_variable.2.2.1 16 = .ok (.goto 4, 3) := by decide +kernel
theorem d_X12_variable_20 : decode mX12_variable.2.2.1 20 = .ok (.invokevirtual 505, 3) := by decide +kernel
def mX12_counts : MD := (12, yX12_counts, cX12_counts, 2, none)
theorem sel_X12_counts : Cond.instanceMethod mX12_counts.2.1 ∈ tblG ∧ Cond.selects mX12_counts.2.1.cls mX12_counts.2.1 mX12_counts.2.1 ∈ tblG := ⟨tblG_in (inT8 (List.mem_of_getElem? (i := 130) rfl)) rfl, tblG_in (inP5 (q := (mX12_counts.2.1, 121)) (List.mem_of_getElem? (i := 15) rfl)) rfl⟩
theorem s_12_505 : e_siteV 12 505 mX12_counts 12 := ⟨tblG_in (inT8 (List.mem_of_getElem? (i := 128) rfl)) rfl, sel_X12_counts.1, sel_X12_counts.2, rfl⟩
theorem d_X12_counts_0 : decode mX12_counts.2.2.1 0 = .ok (.iload_n 1, 1) := by decide +kernel
theorem d_X12_counts_1 : decode mX12_counts.2.2.1 1 = .ok (.ifCond .eq 12, 3) := by decide +kernel
theorem d_X12_counts_4 : decode mX12_counts.2.2.1 4 = .ok (.aload_n 0, 1) := by decide +kernel
theorem d_X12_counts_5 : decode mX12_counts.2.2.1 5 = .ok (.iconst 5, 1) := by decide +kernel
theorem d_X12_counts_6 : decode mX12_counts.2.2.1 6 = .ok (.aload_n 0, 1) := by decide +kernel
theorem d_X12_counts_7 : decode mX12_counts.2.2.1 7 = .ok (.getfield 23, 3) := by decide +kernel
theorem d_X12_counts_10 : decode mX12_counts.2.2.1 10 = .ok (.invokevirtual 389, 3) := by decide +kernel
theorem d_X12_counts_13 : decode mX12_counts.2.2.1 13 = .ok (.aload_n 0, 1) := by decide +kernel
theorem d_X12_counts_14 : decode mX12_counts.2.2.1 14 = .ok (.getfield 36, 3) := by decide +kernel
theorem d_X12_counts_17 : decode mX12_counts.2.2.1 17 = .ok (.ifCond .ne 7, 3) := by decide +kernel
theorem d_X12_counts_24 : decode mX12_counts.2.2.1 24 = .ok (.return_, 1) := by decide +kernel
theorem d_X12_counts_20 : decode mX12_counts.2.2.1 20 = .ok (.aload_n 0, 1) := by decide +kernel
theorem d_X12_counts_21 : decode mX12_counts.2.2.1 21 = .ok (.invokevirtual 396, 3) := by decide +kernel
theorem ok_X12_counts : e_m mX12_counts 1 := ⟨tblG_in (inT8 (List.mem_of_getElem? (i := 131) rfl)) rfl, plainFor_of_name (by decide), rfl, ini_12, by decide +kernel, by decide⟩
theorem d_X12_variable_23 : decode mX12_variable.2.2.1 23 = .ok (.aload_n 0, 1) := by decide +kernel
theorem d_X12_variable_24 : decode mX12_variable.2.2.1 24 = .ok (.getfield 36, 3) := by decide +kernel
theorem d_X12_variable_27 : decode mX12_variable.2.2.1 27 = .ok (.ifCond .le 4, 3) := by decide +kernel
theorem d_X12_variable_31 : decode mX12_variable.2.2.1 31 = .ok (.aload_n 0, 1) := by decide +kernel
theorem d_X12_variable_32 : decode mX12_variable.2.2.1 32 = .ok (.getfield 91, 3) := by decide +kernel
theorem d_X12_variable_35 : decode mX12_variable.2.2.1 35 = .ok (.bipush 6, 2) := by decide +kernel
theorem d_X12_variable_37 : decode mX12_variable.2.2.1 37 = .ok (.aload_n 0, 1) := by decide +kernel
theorem d_X12_variable_38 : decode mX12_variable.2.2.1 38 = .ok (.getfield 124, 3) := by decide +kernel
theorem d_X12_variable_41 : decode mX12_variable.2.2.1 41 = .ok (.imul, 1) := by decide +kernel
theorem d_X12_variable_42 : decode mX12_variable.2.2.1 42 = .ok (.aload_n 0, 1) := by decide +kernel
theorem d_X12_variable_43 : decode mX12_variable.2.2.1 43 = .ok (.getfield 69, 3) := by decide +kernel
theorem d_X12_variable_46 : decode mX12_variable.2.2.1 46 = .ok (.aload_n 0, 1) := by decide +kernel
theorem d_X12_variable_47 : decode mX12_variable.2.2.1 47 = .ok (.getfield 124, 3) := by decide +kernel
theorem d_X12_variable_50 : decode mX12_variable.2.2.1 50 = .ok (.iaload, 1) := by decide +kernel
theorem d_X12_variable_51 : decode mX12_variable.2.2.1 51 = .ok (.iadd, 1) := by decide +kernel
theorem d_X12_variable_52 : decode mX12_variable.2.2.1 52 = .ok (.aload_n 0, 1) := by decide +kernel
theorem d_X12_variable_53 : decode mX12_variable.2.2.1 53 = .ok (.invokevirtual 508, 3) := by decide +kernel
def mX12_fresh : MD := (12, yX12_fresh, cX12_fresh, 3, some .long)
theorem sel_X12_fresh : Cond.instanceMethod mX12_fresh.2.1 ∈ tblG ∧ Cond.selects mX12_fresh.2.1.cls mX12_fresh.2.1 mX12_fresh.2.1 ∈ tblG := ⟨tblG_in (inT8 (List.mem_of_getElem? (i := 134) rfl)) rfl, tblG_in (inP6 (q := (mX12_fresh.2.1, 121)) (List.mem_of_getElem? (i := 0) rfl)) rfl⟩
theorem s_12_508 : e_siteV 12 508 mX12_fresh 12 := ⟨tblG_in (inT8 (List.mem_of_getElem? (i := 132) rfl)) rfl, sel_X12_fresh.1, sel_X12_fresh.2, rfl⟩
theorem d_X12_fresh_0 : decode mX12_fresh.2.2.1 0 = .ok (.aload_n 0, 1) := by decide +kernel
theorem d_X12_fresh_1 : decode mX12_fresh.2.2.1 1 = .ok (.getfield 36, 3) := by decide +kernel
theorem d_X12_fresh_4 : decode mX12_fresh.2.2.1 4 = .ok (.ifCond .le 5, 3) := by decide +kernel
theorem d_X12_fresh_9 : decode mX12_fresh.2.2.1 9 = .ok (.aload_n 0, 1) := by decide +kernel
theorem d_X12_fresh_10 : decode mX12_fresh.2.2.1 10 = .ok (.getfield 20, 3) := by decide +kernel
theorem d_X12_fresh_13 : decode mX12_fresh.2.2.1 13 = .ok (.iconst 1, 1) := by decide +kernel
theorem d_X12_fresh_14 : decode mX12_fresh.2.2.1 14 = .ok (.if_icmp .ne 14, 3) := by decide +kernel
theorem d_X12_fresh_17 : decode mX12_fresh.2.2.1 17 = .ok (.aload_n 0, 1) := by decide +kernel
theorem d_X12_fresh_18 : decode mX12_fresh.2.2.1 18 = .ok (.aload_n 0, 1) := by decide +kernel
theorem d_X12_fresh_19 : decode mX12_fresh.2.2.1 19 = .ok (.getfield 32, 3) := by decide +kernel
theorem d_X12_fresh_22 : decode mX12_fresh.2.2.1 22 = .ok (.invokevirtual 453, 3) := by decide +kernel
end
/-! 35.15 -/
section
def mX12_isOwn : MD := (12, yX12_isOwn, cX12_isOwn, 3, some .boolean)
theorem sel_X12_isOwn : Cond.instanceMethod mX12_isOwn.2.1 ∈ tblG ∧ Cond.selects mX12_isOwn.2.1.cls mX12_isOwn.2.1 mX12_isOwn.2.1 ∈ tblG := ⟨tblG_in (inT8 (List.mem_of_getElem? (i := 138) rfl)) rfl, tblG_in (inP6 (q := (mX12_isOwn.2.1, 121)) (List.mem_of_getElem? (i := 1) rfl)) rfl⟩
theorem s_12_453 : e_siteV 12 453 mX12_isOwn 12 := ⟨tblG_in (inT8 (List.mem_of_getElem? (i := 136) rfl)) rfl, sel_X12_isOwn.1, sel_X12_isOwn.2, rfl⟩
theorem d_X12_isOwn_0 : decode mX12_isOwn.2.2.1 0 = .ok (.lload_n 1, 1) := by decide +kernel
theorem d_X12_isOwn_1 : decode mX12_isOwn.2.2.1 1 = .ok (.ldc2_w 399, 3) := by decide +kernel
theorem d_X12_isOwn_4 : decode mX12_isOwn.2.2.1 4 = .ok (.lcmp, 1) := by decide +kernel
theorem d_X12_isOwn_5 : decode mX12_isOwn.2.2.1 5 = .ok (.ifCond .eq 35, 3) := by decide +kernel
theorem d_X12_isOwn_40 : decode mX12_isOwn.2.2.1 40 = .ok (.iconst 1, 1) := by decide +kernel
theorem d_X12_isOwn_41 : decode mX12_isOwn.2.2.1 41 = .ok (.ireturn, 1) := by decide +kernel
theorem d_X12_isOwn_8 : decode mX12_isOwn.2.2.1 8 = .ok (.lload_n 1, 1) := by decide +kernel
theorem d_X12_isOwn_9 : decode mX12_isOwn.2.2.1 9 = .ok (.ldc2_w 401, 3) := by decide +kernel
theorem d_X12_isOwn_12 : decode mX12_isOwn.2.2.1 12 = .ok (.lcmp, 1) := by decide +kernel
theorem d_X12_isOwn_13 : decode mX12_isOwn.2.2.1 13 = .ok (.ifCond .eq 27, 3) := by decide +kernel
theorem d_X12_isOwn_16 : decode mX12_isOwn.2.2.1 16 = .ok (.lload_n 1, 1) := by decide +kernel
theorem d_X12_isOwn_17 : decode mX12_isOwn.2.2.1 17 = .ok (.ldc2_w 403, 3) := by decide +kernel
theorem d_X12_isOwn_20 : decode mX12_isOwn.2.2.1 20 = .ok (.lcmp, 1) := by decide +kernel
theorem d_X12_isOwn_21 : decode mX12_isOwn.2.2.1 21 = .ok (.ifCond .eq 19, 3) := by decide +kernel
theorem d_X12_isOwn_24 : decode mX12_isOwn.2.2.1 24 = .ok (.lload_n 1, 1) := by decide +kernel
theorem d_X12_isOwn_25 : decode mX12_isOwn.2.2.1 25 = .ok (.ldc2_w 405, 3) := by decide +kernel
theorem kl_12_405 : Jvm.Cond.constantLong (e_cn 12) 405 (Int64.ofInt 495739823472) ∈ tblG := tblG_in (inT8 (List.mem_of_getElem? (i := 140) rfl)) rfl
theorem d_X12_isOwn_28 : decode mX12_isOwn.2.2.1 28 = .ok (.lcmp, 1) := by decide +kernel
theorem d_X12_isOwn_29 : decode mX12_isOwn.2.2.1 29 = .ok (.ifCond .eq 11, 3) := by decide +kernel
theorem d_X12_isOwn_32 : decode mX12_isOwn.2.2.1 32 = .ok (.lload_n 1, 1) := by decide +kernel
theorem d_X12_isOwn_33 : decode mX12_isOwn.2.2.1 33 = .ok (.ldc2_w 407, 3) := by decide +kernel
theorem kl_12_407 : Jvm.Cond.constantLong (e_cn 12) 407 (Int64.ofInt 2002873189) ∈ tblG := tblG_in (inT8 (List.mem_of_getElem? (i := 141) rfl)) rfl
theorem d_X12_isOwn_36 : decode mX12_isOwn.2.2.1 36 = .ok (.lcmp, 1) := by decide +kernel
theorem d_X12_isOwn_37 : decode mX12_isOwn.2.2.1 37 = .ok (.ifCond .ne 5, 3) := by decide +kernel
theorem d_X12_isOwn_42 : decode mX12_isOwn.2.2.1 42 = .ok (.lload_n 1, 1) := by decide +kernel
theorem d_X12_isOwn_43 : decode mX12_isOwn.2.2.1 43 = .ok (.ldc2_w 409, 3) := by decide +kernel
theorem kl_12_409 : Jvm.Cond.constantLong (e_cn 12) 409 (Int64.ofInt 28526) ∈ tblG := tblG_in (inT8 (List.mem_of_getElem? (i := 142) rfl)) rfl
theorem d_X12_isOwn_46 : decode mX12_isOwn.2.2.1 46 = .ok (.lcmp, 1) := by decide +kernel
theorem d_X12_isOwn_47 : decode mX12_isOwn.2.2.1 47 = .ok (.ifCond .eq 35, 3) := by decide +kernel
theorem d_X12_isOwn_82 : decode mX12_isOwn.2.2.1 82 = .ok (.iconst 1, 1) := by decide +kernel
theorem d_X12_isOwn_83 : decode mX12_isOwn.2.2.1 83 = .ok (.ireturn, 1) := by decide +kernel
theorem d_X12_isOwn_50 : decode mX12_isOwn.2.2.1 50 = .ok (.lload_n 1, 1) := by decide +kernel
theorem d_X12_isOwn_51 : decode mX12_isOwn.2.2.1 51 = .ok (.ldc2_w 411, 3) := by decide +kernel
theorem kl_12_411 : Jvm.Cond.constantLong (e_cn 12) 411 (Int64.ofInt 2003792491) ∈ tblG := tblG_in (inT8 (List.mem_of_getElem? (i := 143) rfl)) rfl
theorem d_X12_isOwn_54 : decode mX12_isOwn.2.2.1 54 = .ok (.lcmp, 1) := by decide +kernel
theorem d_X12_isOwn_55 : decode mX12_isOwn.2.2.1 55 = .ok (.ifCond .eq 27, 3) := by decide +kernel
theorem d_X12_isOwn_58 : decode mX12_isOwn.2.2.1 58 = .ok (.lload_n 1, 1) := by decide +kernel
theorem d_X12_isOwn_59 : decode mX12_isOwn.2.2.1 59 = .ok (.ldc2_w 413, 3) := by decide +kernel
theorem kl_12_413 : Jvm.Cond.constantLong (e_cn 12) 413 (Int64.ofInt 1952541036) ∈ tblG := tblG_in (inT8 (List.mem_of_getElem? (i := 144) rfl)) rfl
theorem d_X12_isOwn_62 : decode mX12_isOwn.2.2.1 62 = .ok (.lcmp, 1) := by decide +kernel
theorem d_X12_isOwn_63 : decode mX12_isOwn.2.2.1 63 = .ok (.ifCond .eq 19, 3) := by decide +kernel
theorem d_X12_isOwn_66 : decode mX12_isOwn.2.2.1 66 = .ok (.lload_n 1, 1) := by decide +kernel
theorem d_X12_isOwn_67 : decode mX12_isOwn.2.2.1 67 = .ok (.ldc2_w 415, 3) := by decide +kernel
theorem d_X12_isOwn_70 : decode mX12_isOwn.2.2.1 70 = .ok (.lcmp, 1) := by decide +kernel
theorem d_X12_isOwn_71 : decode mX12_isOwn.2.2.1 71 = .ok (.ifCond .eq 11, 3) := by decide +kernel
theorem d_X12_isOwn_74 : decode mX12_isOwn.2.2.1 74 = .ok (.lload_n 1, 1) := by decide +kernel
theorem d_X12_isOwn_75 : decode mX12_isOwn.2.2.1 75 = .ok (.ldc2_w 417, 3) := by decide +kernel
theorem d_X12_isOwn_78 : decode mX12_isOwn.2.2.1 78 = .ok (.lcmp, 1) := by decide +kernel
theorem d_X12_isOwn_79 : decode mX12_isOwn.2.2.1 79 = .ok (.ifCond .ne 5, 3) := by decide +kernel
theorem d_X12_isOwn_84 : decode mX12_isOwn.2.2.1 84 = .ok (.lload_n 1, 1) := by decide +kernel
theorem d_X12_isOwn_85 : decode mX12_isOwn.2.2.1 85 = .ok (.ldc2_w 419, 3) := by decide +kernel
theorem kl_12_419 : Jvm.Cond.constantLong (e_cn 12) 419 (Int64.ofInt 7562612) ∈ tblG := tblG_in (inT8 (List.mem_of_getElem? (i := 147) rfl)) rfl
theorem d_X12_isOwn_88 : decode mX12_isOwn.2.2.1 88 = .ok (.lcmp, 1) := by decide +kernel
theorem d_X12_isOwn_89 : decode mX12_isOwn.2.2.1 89 = .ok (.ifCond .eq 35, 3) := by decide +kernel
theorem d_X12_isOwn_124 : decode mX12_isOwn.2.2.1 124 = .ok (.iconst 1, 1) := by decide +kernel
theorem d_X12_isOwn_125 : decode mX12_isOwn.2.2.1 125 = .ok (.ireturn, 1) := by decide +kernel
theorem d_X12_isOwn_92 : decode mX12_isOwn.2.2.1 92 = .ok (.lload_n 1, 1) := by decide +kernel
theorem d_X12_isOwn_93 : decode mX12_isOwn.2.2.1 93 = .ok (.ldc2_w 421, 3) := by decide +kernel
theorem kl_12_421 : Jvm.Cond.constantLong (e_cn 12) 421 (Int64.ofInt 7697253) ∈ tblG := tblG_in (inT8 (List.mem_of_getElem? (i := 148) rfl)) rfl
theorem d_X12_isOwn_96 : decode mX12_isOwn.2.2.1 96 = .ok (.lcmp, 1) := by decide +kernel
theorem d_X12_isOwn_97 : decode mX12_isOwn.2.2.1 97 = .ok (.ifCond .eq 27, 3) := by decide +kernel
theorem d_X12_isOwn_100 : decode mX12_isOwn.2.2.1 100 = .ok (.lload_n 1, 1) := by decide +kernel
theorem d_X12_isOwn_101 : decode mX12_isOwn.2.2.1 101 = .ok (.ldc2_w 423, 3) := by decide +kernel
theorem kl_12_423 : Jvm.Cond.constantLong (e_cn 12) 423 (Int64.ofInt 1752132708) ∈ tblG := tblG_in (inT8 (List.mem_of_getElem? (i := 149) rfl)) rfl
theorem d_X12_isOwn_104 : decode mX12_isOwn.2.2.1 104 = .ok (.lcmp, 1) := by decide +kernel
theorem d_X12_isOwn_105 : decode mX12_isOwn.2.2.1 105 = .ok (.ifCond .eq 19, 3) := by decide +kernel
theorem d_X12_isOwn_108 : decode mX12_isOwn.2.2.1 108 = .ok (.lload_n 1, 1) := by decide +kernel
theorem d_X12_isOwn_109 : decode mX12_isOwn.2.2.1 109 = .ok (.ldc2_w 425, 3) := by decide +kernel
theorem kl_12_425 : Jvm.Cond.constantLong (e_cn 12) 425 (Int64.ofInt 1718773093) ∈ tblG := tblG_in (inT8 (List.mem_of_getElem? (i := 150) rfl)) rfl
theorem d_X12_isOwn_112 : decode mX12_isOwn.2.2.1 112 = .ok (.lcmp, 1) := by decide +kernel
theorem d_X12_isOwn_113 : decode mX12_isOwn.2.2.1 113 = .ok (.ifCond .eq 11, 3) := by decide +kernel
theorem d_X12_isOwn_116 : decode mX12_isOwn.2.2.1 116 = .ok (.lload_n 1, 1) := by decide +kernel
theorem d_X12_isOwn_117 : decode mX12_isOwn.2.2.1 117 = .ok (.ldc2_w 427, 3) := by decide +kernel
theorem kl_12_427 : Jvm.Cond.constantLong (e_cn 12) 427 (Int64.ofInt 2002872692) ∈ tblG := tblG_in (inT8 (List.mem_of_getElem? (i := 151) rfl)) rfl
theorem d_X12_isOwn_120 : decode mX12_isOwn.2.2.1 120 = .ok (.lcmp, 1) := by decide +kernel
theorem d_X12_isOwn_121 : decode mX12_isOwn.2.2.1 121 = .ok (.ifCond .ne 5, 3) := by decide +kernel
theorem d_X12_isOwn_126 : decode mX12_isOwn.2.2.1 126 = .ok (.lload_n 1, 1) := by decide +kernel
theorem d_X12_isOwn_127 : decode mX12_isOwn.2.2.1 127 = .ok (.ldc2_w 429, 3) := by decide +kernel
theorem kl_12_429 : Jvm.Cond.constantLong (e_cn 12) 429 (Int64.ofInt 500086170472) ∈ tblG := tblG_in (inT8 (List.mem_of_getElem? (i := 152) rfl)) rfl
theorem d_X12_isOwn_130 : decode mX12_isOwn.2.2.1 130 = .ok (.lcmp, 1) := by decide +kernel
theorem d_X12_isOwn_131 : decode mX12_isOwn.2.2.1 131 = .ok (.ifCond .eq 35, 3) := by decide +kernel
theorem d_X12_isOwn_166 : decode mX12_isOwn.2.2.1 166 = .ok (.iconst 1, 1) := by decide +kernel
theorem d_X12_isOwn_167 : decode mX12_isOwn.2.2.1 167 = .ok (.ireturn, 1) := by decide +kernel
theorem d_X12_isOwn_134 : decode mX12_isOwn.2.2.1 134 = .ok (.lload_n 1, 1) := by decide +kernel
theorem d_X12_isOwn_135 : decode mX12_isOwn.2.2.1 135 = .ok (.ldc2_w 431, 3) := by decide +kernel
theorem kl_12_431 : Jvm.Cond.constantLong (e_cn 12) 431 (Int64.ofInt 26982) ∈ tblG := tblG_in (inT8 (List.mem_of_getElem? (i := 153) rfl)) rfl
theorem d_X12_isOwn_138 : decode mX12_isOwn.2.2.1 138 = .ok (.lcmp, 1) := by decide +kernel
theorem d_X12_isOwn_139 : decode mX12_isOwn.2.2.1 139 = .ok (.ifCond .eq 27, 3) := by decide +kernel
theorem d_X12_isOwn_142 : decode mX12_isOwn.2.2.1 142 = .ok (.lload_n 1, 1) := by decide +kernel
theorem d_X12_isOwn_143 : decode mX12_isOwn.2.2.1 143 = .ok (.ldc2_w 433, 3) := by decide +kernel
theorem kl_12_433 : Jvm.Cond.constantLong (e_cn 12) 433 (Int64.ofInt 1701606245) ∈ tblG := tblG_in (inT8 (List.mem_of_getElem? (i := 154) rfl)) rfl
theorem d_X12_isOwn_146 : decode mX12_isOwn.2.2.1 146 = .ok (.lcmp, 1) := by decide +kernel
theorem d_X12_isOwn_147 : decode mX12_isOwn.2.2.1 147 = .ok (.ifCond .eq 19, 3) := by decide +kernel
theorem d_X12_isOwn_150 : decode mX12_isOwn.2.2.1 150 = .ok (.lload_n 1, 1) := by decide +kernel
theorem d_X12_isOwn_151 : decode mX12_isOwn.2.2.1 151 = .ok (.ldc2_w 435, 3) := by decide +kernel
theorem kl_12_435 : Jvm.Cond.constantLong (e_cn 12) 435 (Int64.ofInt 512852847717) ∈ tblG := tblG_in (inT8 (List.mem_of_getElem? (i := 155) rfl)) rfl
theorem d_X12_isOwn_154 : decode mX12_isOwn.2.2.1 154 = .ok (.lcmp, 1) := by decide +kernel
theorem d_X12_isOwn_155 : decode mX12_isOwn.2.2.1 155 = .ok (.ifCond .eq 11, 3) := by decide +kernel
theorem d_X12_isOwn_158 : decode mX12_isOwn.2.2.1 158 = .ok (.lload_n 1, 1) := by decide +kernel
theorem d_X12_isOwn_159 : decode mX12_isOwn.2.2.1 159 = .ok (.ldc2_w 437, 3) := by decide +kernel
theorem kl_12_437 : Jvm.Cond.constantLong (e_cn 12) 437 (Int64.ofInt 28530) ∈ tblG := tblG_in (inT8 (List.mem_of_getElem? (i := 156) rfl)) rfl
theorem d_X12_isOwn_162 : decode mX12_isOwn.2.2.1 162 = .ok (.lcmp, 1) := by decide +kernel
theorem d_X12_isOwn_163 : decode mX12_isOwn.2.2.1 163 = .ok (.ifCond .ne 5, 3) := by decide +kernel
theorem d_X12_isOwn_168 : decode mX12_isOwn.2.2.1 168 = .ok (.lload_n 1, 1) := by decide +kernel
theorem d_X12_isOwn_169 : decode mX12_isOwn.2.2.1 169 = .ok (.ldc2_w 439, 3) := by decide +kernel
theorem kl_12_439 : Jvm.Cond.constantLong (e_cn 12) 439 (Int64.ofInt 6385252) ∈ tblG := tblG_in (inT8 (List.mem_of_getElem? (i := 157) rfl)) rfl
theorem d_X12_isOwn_172 : decode mX12_isOwn.2.2.1 172 = .ok (.lcmp, 1) := by decide +kernel
theorem d_X12_isOwn_173 : decode mX12_isOwn.2.2.1 173 = .ok (.ifCond .eq 35, 3) := by decide +kernel
theorem d_X12_isOwn_208 : decode mX12_isOwn.2.2.1 208 = .ok (.iconst 1, 1) := by decide +kernel
theorem d_X12_isOwn_209 : decode mX12_isOwn.2.2.1 209 = .ok (.ireturn, 1) := by decide +kernel
theorem d_X12_isOwn_176 : decode mX12_isOwn.2.2.1 176 = .ok (.lload_n 1, 1) := by decide +kernel
theorem d_X12_isOwn_177 : decode mX12_isOwn.2.2.1 177 = .ok (.ldc2_w 441, 3) := by decide +kernel
theorem kl_12_441 : Jvm.Cond.constantLong (e_cn 12) 441 (Int64.ofInt 7237492) ∈ tblG := tblG_in (inT8 (List.mem_of_getElem? (i := 158) rfl)) rfl
theorem d_X12_isOwn_180 : decode mX12_isOwn.2.2.1 180 = .ok (.lcmp, 1) := by decide +kernel
theorem d_X12_isOwn_181 : decode mX12_isOwn.2.2.1 181 = .ok (.ifCond .eq 27, 3) := by decide +kernel
theorem d_X12_isOwn_184 : decode mX12_isOwn.2.2.1 184 = .ok (.lload_n 1, 1) := by decide +kernel
theorem d_X12_isOwn_185 : decode mX12_isOwn.2.2.1 185 = .ok (.ldc2_w 443, 3) := by decide +kernel
theorem kl_12_443 : Jvm.Cond.constantLong (e_cn 12) 443 (Int64.ofInt 6384748) ∈ tblG := tblG_in (inT8 (List.mem_of_getElem? (i := 159) rfl)) rfl
theorem d_X12_isOwn_188 : decode mX12_isOwn.2.2.1 188 = .ok (.lcmp, 1) := by decide +kernel
theorem d_X12_isOwn_189 : decode mX12_isOwn.2.2.1 189 = .ok (.ifCond .eq 19, 3) := by decide +kernel
theorem d_X12_isOwn_192 : decode mX12_isOwn.2.2.1 192 = .ok (.lload_n 1, 1) := by decide +kernel
theorem d_X12_isOwn_193 : decode mX12_isOwn.2.2.1 193 = .ok (.ldc2_w 445, 3) := by decide +kernel
theorem kl_12_445 : Jvm.Cond.constantLong (e_cn 12) 445 (Int64.ofInt 1751477348) ∈ tblG := tblG_in (inT8 (List.mem_of_getElem? (i := 160) rfl)) rfl
theorem d_X12_isOwn_196 : decode mX12_isOwn.2.2.1 196 = .ok (.lcmp, 1) := by decide +kernel
theorem d_X12_isOwn_197 : decode mX12_isOwn.2.2.1 197 = .ok (.ifCond .eq 11, 3) := by decide +kernel
theorem d_X12_isOwn_200 : decode mX12_isOwn.2.2.1 200 = .ok (.lload_n 1, 1) := by decide +kernel
theorem d_X12_isOwn_201 : decode mX12_isOwn.2.2.1 201 = .ok (.ldc2_w 447, 3) := by decide +kernel
theorem kl_12_447 : Jvm.Cond.constantLong (e_cn 12) 447 (Int64.ofInt 1953063787) ∈ tblG := tblG_in (inT8 (List.mem_of_getElem? (i := 161) rfl)) rfl
theorem d_X12_isOwn_204 : decode mX12_isOwn.2.2.1 204 = .ok (.lcmp, 1) := by decide +kernel
theorem d_X12_isOwn_205 : decode mX12_isOwn.2.2.1 205 = .ok (.ifCond .ne 5, 3) := by decide +kernel
theorem d_X12_isOwn_210 : decode mX12_isOwn.2.2.1 210 = .ok (.lload_n 1, 1) := by decide +kernel
theorem d_X12_isOwn_211 : decode mX12_isOwn.2.2.1 211 = .ok (.ldc2_w 449, 3) := by decide +kernel
theorem kl_12_449 : Jvm.Cond.constantLong (e_cn 12) 449 (Int64.ofInt 7170414) ∈ tblG := tblG_in (inT8 (List.mem_of_getElem? (i := 162) rfl)) rfl
theorem d_X12_isOwn_214 : decode mX12_isOwn.2.2.1 214 = .ok (.lcmp, 1) := by decide +kernel
theorem d_X12_isOwn_215 : decode mX12_isOwn.2.2.1 215 = .ok (.ifCond .eq 11, 3) := by decide +kernel
theorem d_X12_isOwn_226 : decode mX12_isOwn.2.2.1 226 = .ok (.iconst 1, 1) := by decide +kernel
theorem d_X12_isOwn_227 : decode mX12_isOwn.2.2.1 227 = .ok (.ireturn, 1) := by decide +kernel
theorem d_X12_isOwn_218 : decode mX12_isOwn.2.2.1 218 = .ok (.lload_n 1, 1) := by decide +kernel
theorem d_X12_isOwn_219 : decode mX12_isOwn.2.2.1 219 = .ok (.ldc2_w 451, 3) := by decide +kernel
theorem kl_12_451 : Jvm.Cond.constantLong (e_cn 12) 451 (Int64.ofInt 7168376) ∈ tblG := tblG_in (inT8 (List.mem_of_getElem? (i := 163) rfl)) rfl
theorem d_X12_isOwn_222 : decode mX12_isOwn.2.2.1 222 = .ok (.lcmp, 1) := by decide +kernel
theorem d_X12_isOwn_223 : decode mX12_isOwn.2.2.1 223 = .ok (.ifCond .ne 5, 3) := by decide +kernel
theorem d_X12_isOwn_228 : decode mX12_isOwn.2.2.1 228 = .ok (.iconst 0, 1) := by decide +kernel
theorem d_X12_isOwn_229 : decode mX12_isOwn.2.2.1 229 = .ok (.ireturn, 1) := by decide +kernel
theorem ok_X12_isOwn : e_m mX12_isOwn 1 := ⟨tblG_in (inT8 (List.mem_of_getElem? (i := 139) rfl)) rfl, plainFor_of_name (by decide), rfl, ini_12, by decide +kernel, by decide⟩
theorem d_X12_fresh_25 : decode mX12_fresh.2.2.1 25 = .ok (.ifCond .eq 12, 3) := by decide +kernel
theorem d_X12_fresh_7 : decode mX12_fresh.2.2.1 7 = .ok (.lconst 0, 1) := by decide +kernel
theorem d_X12_fresh_8 : decode mX12_fresh.2.2.1 8 = .ok (.lreturn, 1) := by decide +kernel
theorem d_X12_fresh_28 : decode mX12_fresh.2.2.1 28 = .ok (.aload_n 0, 1) := by decide +kernel
theorem d_X12_fresh_29 : decode mX12_fresh.2.2.1 29 = .ok (.iconst 1, 1) := by decide +kernel
theorem d_X12_fresh_30 : decode mX12_fresh.2.2.1 30 = .ok (.aload_n 0, 1) := by decide +kernel
theorem d_X12_fresh_31 : decode mX12_fresh.2.2.1 31 = .ok (.getfield 23, 3) := by decide +kernel
theorem d_X12_fresh_34 : decode mX12_fresh.2.2.1 34 = .ok (.invokevirtual 389, 3) := by decide +kernel
theorem d_X12_fresh_37 : decode mX12_fresh.2.2.1 37 = .ok (.aload_n 0, 1) := by decide +kernel
theorem d_X12_fresh_38 : decode mX12_fresh.2.2.1 38 = .ok (.getfield 36, 3) := by decide +kernel
theorem d_X12_fresh_41 : decode mX12_fresh.2.2.1 41 = .ok (.ifCond .ne 48, 3) := by decide +kernel
theorem d_X12_fresh_44 : decode mX12_fresh.2.2.1 44 = .ok (.aload_n 0, 1) := by decide +kernel
theorem d_X12_fresh_45 : decode mX12_fresh.2.2.1 45 = .ok (.aload_n 0, 1) := by decide +kernel
theorem d_X12_fresh_46 : decode mX12_fresh.2.2.1 46 = .ok (.getfield 32, 3) := by decide +kernel
theorem d_X12_fresh_49 : decode mX12_fresh.2.2.1 49 = .ok (.invokevirtual 457, 3) := by decide +kernel
def mX12_partOf : MD := (12, yX12_partOf, cX12_partOf, 4, some .int)
theorem sel_X12_partOf : Cond.instanceMethod mX12_partOf.2.1 ∈ tblG ∧ Cond.selects mX12_partOf.2.1.cls mX12_partOf.2.1 mX12_partOf.2.1 ∈ tblG := ⟨tblG_in (inT8 (List.mem_of_getElem? (i := 166) rfl)) rfl, tblG_in (inP6 (q := (mX12_partOf.2.1, 121)) (List.mem_of_getElem? (i := 2) rfl)) rfl⟩
theorem s_12_457 : e_siteV 12 457 mX12_partOf 12 := ⟨tblG_in (inT8 (List.mem_of_getElem? (i := 164) rfl)) rfl, sel_X12_partOf.1, sel_X12_partOf.2, rfl⟩
theorem d_X12_partOf_0 : decode mX12_partOf.2.2.1 0 = .ok (.iconst 0, 1) := by decide +kernel
theorem d_X12_partOf_1 : decode mX12_partOf.2.2.1 1 = .ok (.istore_n 3, 1) := by decide +kernel
theorem d_X12_partOf_2 : decode mX12_partOf.2.2.1 2 = .ok (.iload_n 3, 1) := by decide +kernel
theorem d_X12_partOf_3 : decode mX12_partOf.2.2.1 3 = .ok (.aload_n 0, 1) := by decide +kernel
theorem d_X12_partOf_4 : decode mX12_partOf.2.2.1 4 = .ok (.getfield 63, 3) := by decide +kernel
theorem d_X12_partOf_7 : decode mX12_partOf.2.2.1 7 = .ok (.aload_n 0, 1) := by decide +kernel
theorem d_X12_partOf_8 : decode mX12_partOf.2.2.1 8 = .ok (.getfield 124, 3) := by decide +kernel
theorem d_X12_partOf_11 : decode mX12_partOf.2.2.1 11 = .ok (.iaload, 1) := by decide +kernel
theorem d_X12_partOf_12 : decode mX12_partOf.2.2.1 12 = .ok (.if_icmp .ge 30, 3) := by decide +kernel
theorem d_X12_partOf_42 : decode mX12_partOf.2.2.1 42 = .ok (.iconst (-1), 1) := by decide +kernel
theorem d_X12_partOf_43 : decode mX12_partOf.2.2.1 43 = .ok (.ireturn, 1) := by decide +kernel
theorem d_X12_partOf_15 : decode mX12_partOf.2.2.1 15 = .ok (.aload_n 0, 1) := by decide +kernel
theorem d_X12_partOf_16 : decode mX12_partOf.2.2.1 16 = .ok (.getfield 75, 3) := by decide +kernel
theorem d_X12_partOf_19 : decode mX12_partOf.2.2.1 19 = .ok (.bipush 6, 2) := by decide +kernel
theorem d_X12_partOf_21 : decode mX12_partOf.2.2.1 21 = .ok (.aload_n 0, 1) := by decide +kernel
theorem d_X12_partOf_22 : decode mX12_partOf.2.2.1 22 = .ok (.getfield 124, 3) := by decide +kernel
theorem d_X12_partOf_25 : decode mX12_partOf.2.2.1 25 = .ok (.imul, 1) := by decide +kernel
theorem d_X12_partOf_26 : decode mX12_partOf.2.2.1 26 = .ok (.iload_n 3, 1) := by decide +kernel
theorem d_X12_partOf_27 : decode mX12_partOf.2.2.1 27 = .ok (.iadd, 1) := by decide +kernel
theorem d_X12_partOf_28 : decode mX12_partOf.2.2.1 28 = .ok (.laload, 1) := by decide +kernel
theorem d_X12_partOf_29 : decode mX12_partOf.2.2.1 29 = .ok (.lload_n 1, 1) := by decide +kernel
theorem d_X12_partOf_30 : decode mX12_partOf.2.2.1 30 = .ok (.lcmp, 1) := by decide +kernel
theorem d_X12_partOf_31 : decode mX12_partOf.2.2.1 31 = .ok (.ifCond .ne 5, 3) := by decide +kernel
theorem d_X12_partOf_36 : decode mX12_partOf.2.2.1 36 = .ok (.iinc 3 1, 3) := by decide +kernel
theorem d_X12_partOf_39 : decode mX12_partOf.2.2.1 39 = .ok (.goto (-37), 3) := by decide +kernel
theorem d_X12_partOf_34 : decode mX12_partOf.2.2.1 34 = .ok (.iload_n 3, 1) := by decide +kernel
theorem d_X12_partOf_35 : decode mX12_partOf.2.2.1 35 = .ok (.ireturn, 1) := by decide +kernel
theorem ok_X12_partOf : e_m mX12_partOf 1 := ⟨tblG_in (inT8 (List.mem_of_getElem? (i := 167) rfl)) rfl, plainFor_of_name (by decide), rfl, ini_12, by decide +kernel, by decide⟩
theorem d_X12_fresh_52 : decode mX12_fresh.2.2.1 52 = .ok (.iconst (-1), 1) := by decide +kernel
theorem d_X12_fresh_53 : decode mX12_fresh.2.2.1 53 = .ok (.if_icmp .ne 27, 3) := by decide +kernel
theorem d_X12_fresh_56 : decode mX12_fresh.2.2.1 56 = .ok (.aload_n 0, 1) := by decide +kernel
theorem d_X12_fresh_57 : decode mX12_fresh.2.2.1 57 = .ok (.aload_n 0, 1) := by decide +kernel
theorem d_X12_fresh_58 : decode mX12_fresh.2.2.1 58 = .ok (.getfield 32, 3) := by decide +kernel
theorem d_X12_fresh_61 : decode mX12_fresh.2.2.1 61 = .ok (.invokevirtual 461, 3) := by decide +kernel
def mX12_inputOf : MD := (12, yX12_inputOf, cX12_inputOf, 4, some .int)
theorem sel_X12_inputOf : Cond.instanceMethod mX12_inputOf.2.1 ∈ tblG ∧ Cond.selects mX12_inputOf.2.1.cls mX12_inputOf.2.1 mX12_inputOf.2.1 ∈ tblG := ⟨tblG_in (inT8 (List.mem_of_getElem? (i := 170) rfl)) rfl, tblG_in (inP6 (q := (mX12_inputOf.2.1, 121)) (List.mem_of_getElem? (i := 3) rfl)) rfl⟩
theorem s_12_461 : e_siteV 12 461 mX12_inputOf 12 := ⟨tblG_in (inT8 (List.mem_of_getElem? (i := 168) rfl)) rfl, sel_X12_inputOf.1, sel_X12_inputOf.2, rfl⟩
theorem d_X12_inputOf_0 : decode mX12_inputOf.2.2.1 0 = .ok (.iconst 0, 1) := by decide +kernel
theorem d_X12_inputOf_1 : decode mX12_inputOf.2.2.1 1 = .ok (.istore_n 3, 1) := by decide +kernel
theorem d_X12_inputOf_2 : decode mX12_inputOf.2.2.1 2 = .ok (.iload_n 3, 1) := by decide +kernel
theorem d_X12_inputOf_3 : decode mX12_inputOf.2.2.1 3 = .ok (.aload_n 0, 1) := by decide +kernel
theorem d_X12_inputOf_4 : decode mX12_inputOf.2.2.1 4 = .ok (.getfield 66, 3) := by decide +kernel
theorem d_X12_inputOf_7 : decode mX12_inputOf.2.2.1 7 = .ok (.aload_n 0, 1) := by decide +kernel
theorem d_X12_inputOf_8 : decode mX12_inputOf.2.2.1 8 = .ok (.getfield 124, 3) := by decide +kernel
theorem d_X12_inputOf_11 : decode mX12_inputOf.2.2.1 11 = .ok (.iaload, 1) := by decide +kernel
theorem d_X12_inputOf_12 : decode mX12_inputOf.2.2.1 12 = .ok (.if_icmp .ge 29, 3) := by decide +kernel
theorem d_X12_inputOf_41 : decode mX12_inputOf.2.2.1 41 = .ok (.iconst (-1), 1) := by decide +kernel
theorem d_X12_inputOf_42 : decode mX12_inputOf.2.2.1 42 = .ok (.ireturn, 1) := by decide +kernel
theorem d_X12_inputOf_15 : decode mX12_inputOf.2.2.1 15 = .ok (.aload_n 0, 1) := by decide +kernel
theorem d_X12_inputOf_16 : decode mX12_inputOf.2.2.1 16 = .ok (.getfield 82, 3) := by decide +kernel
theorem d_X12_inputOf_19 : decode mX12_inputOf.2.2.1 19 = .ok (.iconst 3, 1) := by decide +kernel
theorem d_X12_inputOf_20 : decode mX12_inputOf.2.2.1 20 = .ok (.aload_n 0, 1) := by decide +kernel
theorem d_X12_inputOf_21 : decode mX12_inputOf.2.2.1 21 = .ok (.getfield 124, 3) := by decide +kernel
theorem d_X12_inputOf_24 : decode mX12_inputOf.2.2.1 24 = .ok (.imul, 1) := by decide +kernel
theorem d_X12_inputOf_25 : decode mX12_inputOf.2.2.1 25 = .ok (.iload_n 3, 1) := by decide +kernel
theorem d_X12_inputOf_26 : decode mX12_inputOf.2.2.1 26 = .ok (.iadd, 1) := by decide +kernel
theorem d_X12_inputOf_27 : decode mX12_inputOf.2.2.1 27 = .ok (.laload, 1) := by decide +kernel
theorem d_X12_inputOf_28 : decode mX12_inputOf.2.2.1 28 = .ok (.lload_n 1, 1) := by decide +kernel
theorem d_X12_inputOf_29 : decode mX12_inputOf.2.2.1 29 = .ok (.lcmp, 1) := by decide +kernel
theorem d_X12_inputOf_30 : decode mX12_inputOf.2.2.1 30 = .ok (.ifCond .ne 5, 3) := by decide +kernel
theorem d_X12_inputOf_35 : decode mX12_inputOf.2.2.1 35 = .ok (.iinc 3 1, 3) := by decide +kernel
theorem d_X12_inputOf_38 : decode mX12_inputOf.2.2.1 38 = .ok (.goto (-36), 3) := by decide +kernel
theorem d_X12_inputOf_33 : decode mX12_inputOf.2.2.1 33 = .ok (.iload_n 3, 1) := by decide +kernel
theorem d_X12_inputOf_34 : decode mX12_inputOf.2.2.1 34 = .ok (.ireturn, 1) := by decide +kernel
end
/-! 35.16 -/
section
theorem ok_X12_inputOf : e_m mX12_inputOf 1 := ⟨tblG_in (inT8 (List.mem_of_getElem? (i := 171) rfl)) rfl, plainFor_of_name (by decide), rfl, ini_12, by decide +kernel, by decide⟩
theorem d_X12_fresh_64 : decode mX12_fresh.2.2.1 64 = .ok (.iconst (-1), 1) := by decide +kernel
theorem d_X12_fresh_65 : decode mX12_fresh.2.2.1 65 = .ok (.if_icmp .ne 15, 3) := by decide +kernel
theorem d_X12_fresh_68 : decode mX12_fresh.2.2.1 68 = .ok (.aload_n 0, 1) := by decide +kernel
theorem d_X12_fresh_69 : decode mX12_fresh.2.2.1 69 = .ok (.aload_n 0, 1) := by decide +kernel
theorem d_X12_fresh_70 : decode mX12_fresh.2.2.1 70 = .ok (.getfield 32, 3) := by decide +kernel
theorem d_X12_fresh_73 : decode mX12_fresh.2.2.1 73 = .ok (.invokevirtual 464, 3) := by decide +kernel
def mX12_varOf : MD := (12, yX12_varOf, cX12_varOf, 4, some .int)
theorem sel_X12_varOf : Cond.instanceMethod mX12_varOf.2.1 ∈ tblG ∧ Cond.selects mX12_varOf.2.1.cls mX12_varOf.2.1 mX12_varOf.2.1 ∈ tblG := ⟨tblG_in (inT8 (List.mem_of_getElem? (i := 174) rfl)) rfl, tblG_in (inP6 (q := (mX12_varOf.2.1, 121)) (List.mem_of_getElem? (i := 4) rfl)) rfl⟩
theorem s_12_464 : e_siteV 12 464 mX12_varOf 12 := ⟨tblG_in (inT8 (List.mem_of_getElem? (i := 172) rfl)) rfl, sel_X12_varOf.1, sel_X12_varOf.2, rfl⟩
theorem d_X12_varOf_0 : decode mX12_varOf.2.2.1 0 = .ok (.iconst 0, 1) := by decide +kernel
theorem d_X12_varOf_1 : decode mX12_varOf.2.2.1 1 = .ok (.istore_n 3, 1) := by decide +kernel
theorem d_X12_varOf_2 : decode mX12_varOf.2.2.1 2 = .ok (.iload_n 3, 1) := by decide +kernel
theorem d_X12_varOf_3 : decode mX12_varOf.2.2.1 3 = .ok (.aload_n 0, 1) := by decide +kernel
theorem d_X12_varOf_4 : decode mX12_varOf.2.2.1 4 = .ok (.getfield 69, 3) := by decide +kernel
theorem d_X12_varOf_7 : decode mX12_varOf.2.2.1 7 = .ok (.aload_n 0, 1) := by decide +kernel
theorem d_X12_varOf_8 : decode mX12_varOf.2.2.1 8 = .ok (.getfield 124, 3) := by decide +kernel
theorem d_X12_varOf_11 : decode mX12_varOf.2.2.1 11 = .ok (.iaload, 1) := by decide +kernel
theorem d_X12_varOf_12 : decode mX12_varOf.2.2.1 12 = .ok (.if_icmp .ge 30, 3) := by decide +kernel
theorem d_X12_varOf_42 : decode mX12_varOf.2.2.1 42 = .ok (.iconst (-1), 1) := by decide +kernel
theorem d_X12_varOf_43 : decode mX12_varOf.2.2.1 43 = .ok (.ireturn, 1) := by decide +kernel
theorem d_X12_varOf_15 : decode mX12_varOf.2.2.1 15 = .ok (.aload_n 0, 1) := by decide +kernel
theorem d_X12_varOf_16 : decode mX12_varOf.2.2.1 16 = .ok (.getfield 91, 3) := by decide +kernel
theorem d_X12_varOf_19 : decode mX12_varOf.2.2.1 19 = .ok (.bipush 6, 2) := by decide +kernel
theorem d_X12_varOf_21 : decode mX12_varOf.2.2.1 21 = .ok (.aload_n 0, 1) := by decide +kernel
theorem d_X12_varOf_22 : decode mX12_varOf.2.2.1 22 = .ok (.getfield 124, 3) := by decide +kernel
theorem d_X12_varOf_25 : decode mX12_varOf.2.2.1 25 = .ok (.imul, 1) := by decide +kernel
theorem d_X12_varOf_26 : decode mX12_varOf.2.2.1 26 = .ok (.iload_n 3, 1) := by decide +kernel
theorem d_X12_varOf_27 : decode mX12_varOf.2.2.1 27 = .ok (.iadd, 1) := by decide +kernel
theorem d_X12_varOf_28 : decode mX12_varOf.2.2.1 28 = .ok (.laload, 1) := by decide +kernel
theorem d_X12_varOf_29 : decode mX12_varOf.2.2.1 29 = .ok (.lload_n 1, 1) := by decide +kernel
theorem d_X12_varOf_30 : decode mX12_varOf.2.2.1 30 = .ok (.lcmp, 1) := by decide +kernel
theorem d_X12_varOf_31 : decode mX12_varOf.2.2.1 31 = .ok (.ifCond .ne 5, 3) := by decide +kernel
theorem d_X12_varOf_36 : decode mX12_varOf.2.2.1 36 = .ok (.iinc 3 1, 3) := by decide +kernel
theorem d_X12_varOf_39 : decode mX12_varOf.2.2.1 39 = .ok (.goto (-37), 3) := by decide +kernel
theorem d_X12_varOf_34 : decode mX12_varOf.2.2.1 34 = .ok (.iload_n 3, 1) := by decide +kernel
theorem d_X12_varOf_35 : decode mX12_varOf.2.2.1 35 = .ok (.ireturn, 1) := by decide +kernel
theorem ok_X12_varOf : e_m mX12_varOf 1 := ⟨tblG_in (inT8 (List.mem_of_getElem? (i := 175) rfl)) rfl, plainFor_of_name (by decide), rfl, ini_12, by decide +kernel, by decide⟩
theorem d_X12_fresh_76 : decode mX12_fresh.2.2.1 76 = .ok (.iconst (-1), 1) := by decide +kernel
theorem d_X12_fresh_77 : decode mX12_fresh.2.2.1 77 = .ok (.if_icmp .eq 12, 3) := by decide +kernel
theorem d_X12_fresh_80 : decode mX12_fresh.2.2.1 80 = .ok (.aload_n 0, 1) := by decide +kernel
theorem d_X12_fresh_81 : decode mX12_fresh.2.2.1 81 = .ok (.iconst 2, 1) := by decide +kernel
theorem d_X12_fresh_82 : decode mX12_fresh.2.2.1 82 = .ok (.aload_n 0, 1) := by decide +kernel
theorem d_X12_fresh_83 : decode mX12_fresh.2.2.1 83 = .ok (.getfield 23, 3) := by decide +kernel
theorem d_X12_fresh_86 : decode mX12_fresh.2.2.1 86 = .ok (.invokevirtual 389, 3) := by decide +kernel
theorem d_X12_fresh_89 : decode mX12_fresh.2.2.1 89 = .ok (.aload_n 0, 1) := by decide +kernel
theorem d_X12_fresh_90 : decode mX12_fresh.2.2.1 90 = .ok (.getfield 32, 3) := by decide +kernel
theorem d_X12_fresh_93 : decode mX12_fresh.2.2.1 93 = .ok (.lstore_n 1, 1) := by decide +kernel
theorem d_X12_fresh_94 : decode mX12_fresh.2.2.1 94 = .ok (.aload_n 0, 1) := by decide +kernel
theorem d_X12_fresh_95 : decode mX12_fresh.2.2.1 95 = .ok (.getfield 36, 3) := by decide +kernel
theorem d_X12_fresh_98 : decode mX12_fresh.2.2.1 98 = .ok (.ifCond .ne 7, 3) := by decide +kernel
theorem d_X12_fresh_105 : decode mX12_fresh.2.2.1 105 = .ok (.lload_n 1, 1) := by decide +kernel
theorem d_X12_fresh_106 : decode mX12_fresh.2.2.1 106 = .ok (.lreturn, 1) := by decide +kernel
theorem d_X12_fresh_101 : decode mX12_fresh.2.2.1 101 = .ok (.aload_n 0, 1) := by decide +kernel
theorem d_X12_fresh_102 : decode mX12_fresh.2.2.1 102 = .ok (.invokevirtual 396, 3) := by decide +kernel
theorem ok_X12_fresh : e_m mX12_fresh 0 := ⟨tblG_in (inT8 (List.mem_of_getElem? (i := 135) rfl)) rfl, plainFor_of_name (by decide), rfl, ini_12, by decide +kernel, by decide⟩
theorem d_X12_variable_56 : decode mX12_variable.2.2.1 56 = .ok (.lastore, 1) := by decide +kernel
theorem d_X12_variable_57 : decode mX12_variable.2.2.1 57 = .ok (.aload_n 0, 1) := by decide +kernel
theorem d_X12_variable_58 : decode mX12_variable.2.2.1 58 = .ok (.getfield 36, 3) := by decide +kernel
theorem d_X12_variable_61 : decode mX12_variable.2.2.1 61 = .ok (.ifCond .ne 16, 3) := by decide +kernel
theorem d_X12_variable_77 : decode mX12_variable.2.2.1 77 = .ok (.return_, 1) := by decide +kernel
theorem d_X12_variable_64 : decode mX12_variable.2.2.1 64 = .ok (.aload_n 0, 1) := by decide +kernel
theorem d_X12_variable_65 : decode mX12_variable.2.2.1 65 = .ok (.getfield 69, 3) := by decide +kernel
theorem d_X12_variable_68 : decode mX12_variable.2.2.1 68 = .ok (.aload_n 0, 1) := by decide +kernel
theorem d_X12_variable_69 : decode mX12_variable.2.2.1 69 = .ok (.getfield 124, 3) := by decide +kernel
theorem d_X12_variable_72 : decode mX12_variable.2.2.1 72 = .ok (.dup2, 1) := by decide +kernel
theorem d_X12_variable_73 : decode mX12_variable.2.2.1 73 = .ok (.iaload, 1) := by decide +kernel
theorem d_X12_variable_74 : decode mX12_variable.2.2.1 74 = .ok (.iconst 1, 1) := by decide +kernel
theorem d_X12_variable_75 : decode mX12_variable.2.2.1 75 = .ok (.iadd, 1) := by decide +kernel
theorem d_X12_variable_76 : decode mX12_variable.2.2.1 76 = .ok (.iastore, 1) := by decide +kernel
theorem d_X12_variable_30 : decode mX12_variable.2.2.1 30 = .ok (.return_, 1) := by decide +kernel
theorem ok_X12_variable : e_m mX12_variable 0 := ⟨tblG_in (inT8 (List.mem_of_getElem? (i := 187) rfl)) rfl, plainFor_of_name (by decide), rfl, ini_12, by decide +kernel, by decide⟩
theorem d_X12_declares_147 : decode mX12_declares.2.2.1 147 = .ok (.goto 5, 3) := by decide +kernel
theorem d_X12_declares_126 : decode mX12_declares.2.2.1 126 = .ok (.aload_n 0, 1) := by decide +kernel
theorem d_X12_declares_127 : decode mX12_declares.2.2.1 127 = .ok (.invokevirtual 523, 3) := by decide +kernel
def mX12_input : MD := (12, yX12_input, cX12_input, 2, none)
theorem sel_X12_input : Cond.instanceMethod mX12_input.2.1 ∈ tblG ∧ Cond.selects mX12_input.2.1.cls mX12_input.2.1 mX12_input.2.1 ∈ tblG := ⟨tblG_in (inT8 (List.mem_of_getElem? (i := 182) rfl)) rfl, tblG_in (inP6 (q := (mX12_input.2.1, 121)) (List.mem_of_getElem? (i := 6) rfl)) rfl⟩
theorem s_12_523 : e_siteV 12 523 mX12_input 12 := ⟨tblG_in (inT8 (List.mem_of_getElem? (i := 180) rfl)) rfl, sel_X12_input.1, sel_X12_input.2, rfl⟩
theorem d_X12_input_0 : decode mX12_input.2.2.1 0 = .ok (.aload_n 0, 1) := by decide +kernel
theorem d_X12_input_1 : decode mX12_input.2.2.1 1 = .ok (.aload_n 0, 1) := by decide +kernel
theorem d_X12_input_2 : decode mX12_input.2.2.1 2 = .ok (.getfield 66, 3) := by decide +kernel
theorem d_X12_input_5 : decode mX12_input.2.2.1 5 = .ok (.aload_n 0, 1) := by decide +kernel
theorem d_X12_input_6 : decode mX12_input.2.2.1 6 = .ok (.getfield 124, 3) := by decide +kernel
theorem d_X12_input_9 : decode mX12_input.2.2.1 9 = .ok (.iaload, 1) := by decide +kernel
theorem d_X12_input_10 : decode mX12_input.2.2.1 10 = .ok (.iconst 3, 1) := by decide +kernel
theorem d_X12_input_11 : decode mX12_input.2.2.1 11 = .ok (.if_icmp .ne 7, 3) := by decide +kernel
theorem d_X12_input_18 : decode mX12_input.2.2.1 18 = .ok (.iconst 0, 1) := by decide +kernel
theorem d_X12_input_14 : decode mX12_input.2.2.1 14 = .ok (.iconst 1, 1) := by decide +kernel
theorem d_X12_input_15 : decode mX12_input.2.2.1 15 = .ok (.goto 4, 3) := by decide +kernel
theorem d_X12_input_19 : decode mX12_input.2.2.1 19 = .ok (.invokevirtual 505, 3) := by decide +kernel
theorem d_X12_input_22 : decode mX12_input.2.2.1 22 = .ok (.aload_n 0, 1) := by decide +kernel
theorem d_X12_input_23 : decode mX12_input.2.2.1 23 = .ok (.getfield 36, 3) := by decide +kernel
theorem d_X12_input_26 : decode mX12_input.2.2.1 26 = .ok (.ifCond .le 4, 3) := by decide +kernel
theorem d_X12_input_30 : decode mX12_input.2.2.1 30 = .ok (.iconst 3, 1) := by decide +kernel
theorem d_X12_input_31 : decode mX12_input.2.2.1 31 = .ok (.aload_n 0, 1) := by decide +kernel
theorem d_X12_input_32 : decode mX12_input.2.2.1 32 = .ok (.getfield 124, 3) := by decide +kernel
theorem d_X12_input_35 : decode mX12_input.2.2.1 35 = .ok (.imul, 1) := by decide +kernel
theorem d_X12_input_36 : decode mX12_input.2.2.1 36 = .ok (.aload_n 0, 1) := by decide +kernel
theorem d_X12_input_37 : decode mX12_input.2.2.1 37 = .ok (.getfield 66, 3) := by decide +kernel
theorem d_X12_input_40 : decode mX12_input.2.2.1 40 = .ok (.aload_n 0, 1) := by decide +kernel
theorem d_X12_input_41 : decode mX12_input.2.2.1 41 = .ok (.getfield 124, 3) := by decide +kernel
theorem d_X12_input_44 : decode mX12_input.2.2.1 44 = .ok (.iaload, 1) := by decide +kernel
theorem d_X12_input_45 : decode mX12_input.2.2.1 45 = .ok (.iadd, 1) := by decide +kernel
theorem d_X12_input_46 : decode mX12_input.2.2.1 46 = .ok (.istore_n 1, 1) := by decide +kernel
theorem d_X12_input_47 : decode mX12_input.2.2.1 47 = .ok (.aload_n 0, 1) := by decide +kernel
theorem d_X12_input_48 : decode mX12_input.2.2.1 48 = .ok (.getfield 82, 3) := by decide +kernel
theorem d_X12_input_51 : decode mX12_input.2.2.1 51 = .ok (.iload_n 1, 1) := by decide +kernel
theorem d_X12_input_52 : decode mX12_input.2.2.1 52 = .ok (.aload_n 0, 1) := by decide +kernel
theorem d_X12_input_53 : decode mX12_input.2.2.1 53 = .ok (.invokevirtual 508, 3) := by decide +kernel
theorem d_X12_input_56 : decode mX12_input.2.2.1 56 = .ok (.lastore, 1) := by decide +kernel
theorem d_X12_input_57 : decode mX12_input.2.2.1 57 = .ok (.aload_n 0, 1) := by decide +kernel
theorem d_X12_input_58 : decode mX12_input.2.2.1 58 = .ok (.getfield 85, 3) := by decide +kernel
theorem d_X12_input_61 : decode mX12_input.2.2.1 61 = .ok (.iload_n 1, 1) := by decide +kernel
theorem d_X12_input_62 : decode mX12_input.2.2.1 62 = .ok (.aload_n 0, 1) := by decide +kernel
theorem d_X12_input_63 : decode mX12_input.2.2.1 63 = .ok (.iconst 0, 1) := by decide +kernel
theorem d_X12_input_64 : decode mX12_input.2.2.1 64 = .ok (.bipush 99, 2) := by decide +kernel
theorem d_X12_input_66 : decode mX12_input.2.2.1 66 = .ok (.invokevirtual 516, 3) := by decide +kernel
def mX12_number : MD := (12, yX12_number, cX12_number, 4, some .int)
theorem sel_X12_number : Cond.instanceMethod mX12_number.2.1 ∈ tblG ∧ Cond.selects mX12_number.2.1.cls mX12_number.2.1 mX12_number.2.1 ∈ tblG := ⟨tblG_in (inT8 (List.mem_of_getElem? (i := 117) rfl)) rfl, tblG_in (inP5 (q := (mX12_number.2.1, 121)) (List.mem_of_getElem? (i := 13) rfl)) rfl⟩
theorem s_12_516 : e_siteV 12 516 mX12_number 12 := ⟨tblG_in (inT8 (List.mem_of_getElem? (i := 115) rfl)) rfl, sel_X12_number.1, sel_X12_number.2, rfl⟩
theorem d_X12_number_0 : decode mX12_number.2.2.1 0 = .ok (.aload_n 0, 1) := by decide +kernel
theorem d_X12_number_1 : decode mX12_number.2.2.1 1 = .ok (.getfield 36, 3) := by decide +kernel
theorem d_X12_number_4 : decode mX12_number.2.2.1 4 = .ok (.ifCond .le 5, 3) := by decide +kernel
theorem d_X12_number_9 : decode mX12_number.2.2.1 9 = .ok (.aload_n 0, 1) := by decide +kernel
theorem d_X12_number_10 : decode mX12_number.2.2.1 10 = .ok (.getfield 20, 3) := by decide +kernel
theorem d_X12_number_13 : decode mX12_number.2.2.1 13 = .ok (.iconst 2, 1) := by decide +kernel
theorem d_X12_number_14 : decode mX12_number.2.2.1 14 = .ok (.if_icmp .eq 12, 3) := by decide +kernel
theorem d_X12_number_17 : decode mX12_number.2.2.1 17 = .ok (.aload_n 0, 1) := by decide +kernel
theorem d_X12_number_18 : decode mX12_number.2.2.1 18 = .ok (.iconst 1, 1) := by decide +kernel
theorem d_X12_number_19 : decode mX12_number.2.2.1 19 = .ok (.aload_n 0, 1) := by decide +kernel
theorem d_X12_number_20 : decode mX12_number.2.2.1 20 = .ok (.getfield 23, 3) := by decide +kernel
theorem d_X12_number_23 : decode mX12_number.2.2.1 23 = .ok (.invokevirtual 389, 3) := by decide +kernel
theorem d_X12_number_7 : decode mX12_number.2.2.1 7 = .ok (.iconst 0, 1) := by decide +kernel
theorem d_X12_number_8 : decode mX12_number.2.2.1 8 = .ok (.ireturn, 1) := by decide +kernel
theorem d_X12_number_26 : decode mX12_number.2.2.1 26 = .ok (.aload_n 0, 1) := by decide +kernel
theorem d_X12_number_27 : decode mX12_number.2.2.1 27 = .ok (.getfield 36, 3) := by decide +kernel
theorem d_X12_number_30 : decode mX12_number.2.2.1 30 = .ok (.ifCond .ne 24, 3) := by decide +kernel
theorem d_X12_number_33 : decode mX12_number.2.2.1 33 = .ok (.aload_n 0, 1) := by decide +kernel
theorem d_X12_number_34 : decode mX12_number.2.2.1 34 = .ok (.getfield 29, 3) := by decide +kernel
theorem d_X12_number_37 : decode mX12_number.2.2.1 37 = .ok (.iload_n 1, 1) := by decide +kernel
theorem d_X12_number_38 : decode mX12_number.2.2.1 38 = .ok (.iload_n 2, 1) := by decide +kernel
theorem d_X12_number_39 : decode mX12_number.2.2.1 39 = .ok (.invokestatic 467, 3) := by decide +kernel
theorem d_X12_number_42 : decode mX12_number.2.2.1 42 = .ok (.ifCond .ne 12, 3) := by decide +kernel
theorem d_X12_number_45 : decode mX12_number.2.2.1 45 = .ok (.aload_n 0, 1) := by decide +kernel
theorem d_X12_number_46 : decode mX12_number.2.2.1 46 = .ok (.iconst 4, 1) := by decide +kernel
theorem d_X12_number_47 : decode mX12_number.2.2.1 47 = .ok (.aload_n 0, 1) := by decide +kernel
theorem d_X12_number_48 : decode mX12_number.2.2.1 48 = .ok (.getfield 23, 3) := by decide +kernel
theorem d_X12_number_51 : decode mX12_number.2.2.1 51 = .ok (.invokevirtual 389, 3) := by decide +kernel
theorem d_X12_number_54 : decode mX12_number.2.2.1 54 = .ok (.aload_n 0, 1) := by decide +kernel
theorem d_X12_number_55 : decode mX12_number.2.2.1 55 = .ok (.getfield 29, 3) := by decide +kernel
theorem d_X12_number_58 : decode mX12_number.2.2.1 58 = .ok (.istore_n 3, 1) := by decide +kernel
theorem d_X12_number_59 : decode mX12_number.2.2.1 59 = .ok (.aload_n 0, 1) := by decide +kernel
theorem d_X12_number_60 : decode mX12_number.2.2.1 60 = .ok (.getfield 36, 3) := by decide +kernel
theorem d_X12_number_63 : decode mX12_number.2.2.1 63 = .ok (.ifCond .ne 7, 3) := by decide +kernel
theorem d_X12_number_70 : decode mX12_number.2.2.1 70 = .ok (.iload_n 3, 1) := by decide +kernel
theorem d_X12_number_71 : decode mX12_number.2.2.1 71 = .ok (.ireturn, 1) := by decide +kernel
theorem d_X12_number_66 : decode mX12_number.2.2.1 66 = .ok (.aload_n 0, 1) := by decide +kernel
theorem d_X12_number_67 : decode mX12_number.2.2.1 67 = .ok (.invokevirtual 396, 3) := by decide +kernel
theorem ok_X12_number : e_m mX12_number 2 := ⟨tblG_in (inT8 (List.mem_of_getElem? (i := 118) rfl)) rfl, plainFor_of_name (by decide), rfl, ini_12, by decide +kernel, by decide⟩
theorem d_X12_input_69 : decode mX12_input.2.2.1 69 = .ok (.iastore, 1) := by decide +kernel
theorem d_X12_input_70 : decode mX12_input.2.2.1 70 = .ok (.aload_n 0, 1) := by decide +kernel
theorem d_X12_input_71 : decode mX12_input.2.2.1 71 = .ok (.getfield 88, 3) := by decide +kernel
theorem d_X12_input_74 : decode mX12_input.2.2.1 74 = .ok (.iload_n 1, 1) := by decide +kernel
theorem d_X12_input_75 : decode mX12_input.2.2.1 75 = .ok (.aload_n 0, 1) := by decide +kernel
theorem d_X12_input_76 : decode mX12_input.2.2.1 76 = .ok (.aload_n 0, 1) := by decide +kernel
theorem d_X12_input_77 : decode mX12_input.2.2.1 77 = .ok (.getfield 85, 3) := by decide +kernel
theorem d_X12_input_80 : decode mX12_input.2.2.1 80 = .ok (.iload_n 1, 1) := by decide +kernel
theorem d_X12_input_81 : decode mX12_input.2.2.1 81 = .ok (.iaload, 1) := by decide +kernel
theorem d_X12_input_82 : decode mX12_input.2.2.1 82 = .ok (.bipush 99, 2) := by decide +kernel
theorem d_X12_input_84 : decode mX12_input.2.2.1 84 = .ok (.invokevirtual 516, 3) := by decide +kernel
theorem d_X12_input_87 : decode mX12_input.2.2.1 87 = .ok (.iastore, 1) := by decide +kernel
theorem d_X12_input_88 : decode mX12_input.2.2.1 88 = .ok (.aload_n 0, 1) := by decide +kernel
theorem d_X12_input_89 : decode mX12_input.2.2.1 89 = .ok (.getfield 36, 3) := by decide +kernel
theorem d_X12_input_92 : decode mX12_input.2.2.1 92 = .ok (.ifCond .ne 16, 3) := by decide +kernel
theorem d_X12_input_108 : decode mX12_input.2.2.1 108 = .ok (.return_, 1) := by decide +kernel
theorem d_X12_input_95 : decode mX12_input.2.2.1 95 = .ok (.aload_n 0, 1) := by decide +kernel
theorem d_X12_input_96 : decode mX12_input.2.2.1 96 = .ok (.getfield 66, 3) := by decide +kernel
theorem d_X12_input_99 : decode mX12_input.2.2.1 99 = .ok (.aload_n 0, 1) := by decide +kernel
theorem d_X12_input_100 : decode mX12_input.2.2.1 100 = .ok (.getfield 124, 3) := by decide +kernel
theorem d_X12_input_103 : decode mX12_input.2.2.1 103 = .ok (.dup2, 1) := by decide +kernel
theorem d_X12_input_104 : decode mX12_input.2.2.1 104 = .ok (.iaload, 1) := by decide +kernel
theorem d_X12_input_105 : decode mX12_input.2.2.1 105 = .ok (.iconst 1, 1) := by decide +kernel
theorem d_X12_input_106 : decode mX12_input.2.2.1 106 = .ok (.iadd, 1) := by decide +kernel
theorem d_X12_input_107 : decode mX12_input.2.2.1 107 = .ok (.iastore, 1) := by decide +kernel
theorem d_X12_input_29 : decode mX12_input.2.2.1 29 = .ok (.return_, 1) := by decide +kernel
theorem ok_X12_input : e_m mX12_input 0 := ⟨tblG_in (inT8 (List.mem_of_getElem? (i := 183) rfl)) rfl, plainFor_of_name (by decide), rfl, ini_12, by decide +kernel, by decide⟩
theorem d_X12_declares_130 : decode mX12_declares.2.2.1 130 = .ok (.goto 22, 3) := by decide +kernel
theorem d_X12_declares_109 : decode mX12_declares.2.2.1 109 = .ok (.aload_n 0, 1) := by decide +kernel
theorem d_X12_declares_110 : decode mX12_declares.2.2.1 110 = .ok (.invokevirtual 520, 3) := by decide +kernel
def mX12_part : MD := (12, yX12_part, cX12_part, 2, none)
theorem sel_X12_part : Cond.instanceMethod mX12_part.2.1 ∈ tblG ∧ Cond.selects mX12_part.2.1.cls mX12_part.2.1 mX12_part.2.1 ∈ tblG := ⟨tblG_in (inT8 (List.mem_of_getElem? (i := 126) rfl)) rfl, tblG_in (inP5 (q := (mX12_part.2.1, 121)) (List.mem_of_getElem? (i := 14) rfl)) rfl⟩
theorem s_12_520 : e_siteV 12 520 mX12_part 12 := ⟨tblG_in (inT8 (List.mem_of_getElem? (i := 124) rfl)) rfl, sel_X12_part.1, sel_X12_part.2, rfl⟩
theorem d_X12_part_0 : decode mX12_part.2.2.1 0 = .ok (.aload_n 0, 1) := by decide +kernel
theorem d_X12_part_1 : decode mX12_part.2.2.1 1 = .ok (.aload_n 0, 1) := by decide +kernel
theorem d_X12_part_2 : decode mX12_part.2.2.1 2 = .ok (.getfield 63, 3) := by decide +kernel
theorem d_X12_part_5 : decode mX12_part.2.2.1 5 = .ok (.aload_n 0, 1) := by decide +kernel
theorem d_X12_part_6 : decode mX12_part.2.2.1 6 = .ok (.getfield 124, 3) := by decide +kernel
theorem d_X12_part_9 : decode mX12_part.2.2.1 9 = .ok (.iaload, 1) := by decide +kernel
theorem d_X12_part_10 : decode mX12_part.2.2.1 10 = .ok (.bipush 6, 2) := by decide +kernel
theorem d_X12_part_12 : decode mX12_part.2.2.1 12 = .ok (.if_icmp .ne 7, 3) := by decide +kernel
theorem d_X12_part_19 : decode mX12_part.2.2.1 19 = .ok (.iconst 0, 1) := by decide +kernel
theorem d_X12_part_15 : decode mX12_part.2.2.1 15 = .ok (.iconst 1, 1) := by decide +kernel
theorem d_X12_part_16 : decode mX12_part.2.2.1 16 = .ok (.goto 4, 3) := by decide +kernel
theorem d_X12_part_20 : decode mX12_part.2.2.1 20 = .ok (.invokevirtual 505, 3) := by decide +kernel
theorem d_X12_part_23 : decode mX12_part.2.2.1 23 = .ok (.aload_n 0, 1) := by decide +kernel
theorem d_X12_part_24 : decode mX12_part.2.2.1 24 = .ok (.getfield 36, 3) := by decide +kernel
theorem d_X12_part_27 : decode mX12_part.2.2.1 27 = .ok (.ifCond .le 4, 3) := by decide +kernel
theorem d_X12_part_31 : decode mX12_part.2.2.1 31 = .ok (.bipush 6, 2) := by decide +kernel
theorem d_X12_part_33 : decode mX12_part.2.2.1 33 = .ok (.aload_n 0, 1) := by decide +kernel
theorem d_X12_part_34 : decode mX12_part.2.2.1 34 = .ok (.getfield 124, 3) := by decide +kernel
theorem d_X12_part_37 : decode mX12_part.2.2.1 37 = .ok (.imul, 1) := by decide +kernel
theorem d_X12_part_38 : decode mX12_part.2.2.1 38 = .ok (.aload_n 0, 1) := by decide +kernel
theorem d_X12_part_39 : decode mX12_part.2.2.1 39 = .ok (.getfield 63, 3) := by decide +kernel
theorem d_X12_part_42 : decode mX12_part.2.2.1 42 = .ok (.aload_n 0, 1) := by decide +kernel
theorem d_X12_part_43 : decode mX12_part.2.2.1 43 = .ok (.getfield 124, 3) := by decide +kernel
theorem d_X12_part_46 : decode mX12_part.2.2.1 46 = .ok (.iaload, 1) := by decide +kernel
theorem d_X12_part_47 : decode mX12_part.2.2.1 47 = .ok (.iadd, 1) := by decide +kernel
theorem d_X12_part_48 : decode mX12_part.2.2.1 48 = .ok (.istore_n 1, 1) := by decide +kernel
theorem d_X12_part_49 : decode mX12_part.2.2.1 49 = .ok (.aload_n 0, 1) := by decide +kernel
theorem d_X12_part_50 : decode mX12_part.2.2.1 50 = .ok (.getfield 75, 3) := by decide +kernel
theorem d_X12_part_53 : decode mX12_part.2.2.1 53 = .ok (.iload_n 1, 1) := by decide +kernel
theorem d_X12_part_54 : decode mX12_part.2.2.1 54 = .ok (.aload_n 0, 1) := by decide +kernel
theorem d_X12_part_55 : decode mX12_part.2.2.1 55 = .ok (.invokevirtual 508, 3) := by decide +kernel
theorem d_X12_part_58 : decode mX12_part.2.2.1 58 = .ok (.lastore, 1) := by decide +kernel
theorem d_X12_part_59 : decode mX12_part.2.2.1 59 = .ok (.aload_n 0, 1) := by decide +kernel
theorem d_X12_part_60 : decode mX12_part.2.2.1 60 = .ok (.ldc2_w 405, 3) := by decide +kernel
theorem d_X12_part_63 : decode mX12_part.2.2.1 63 = .ok (.invokevirtual 512, 3) := by decide +kernel
def mX12_must_ : MD := (12, yX12_must_, cX12_must_, 3, none)
theorem sel_X12_must_ : Cond.instanceMethod mX12_must_.2.1 ∈ tblG ∧ Cond.selects mX12_must_.2.1.cls mX12_must_.2.1 mX12_must_.2.1 ∈ tblG := ⟨tblG_in (inT8 (List.mem_of_getElem? (i := 178) rfl)) rfl, tblG_in (inP6 (q := (mX12_must_.2.1, 121)) (List.mem_of_getElem? (i := 5) rfl)) rfl⟩
theorem s_12_512 : e_siteV 12 512 mX12_must_ 12 := ⟨tblG_in (inT8 (List.mem_of_getElem? (i := 176) rfl)) rfl, sel_X12_must_.1, sel_X12_must_.2, rfl⟩
end
/-! 35.17 -/
section
theorem d_X12_must__0 : decode mX12_must_.2.2.1 0 = .ok (.aload_n 0, 1) := by decide +kernel
theorem d_X12_must__1 : decode mX12_must_.2.2.1 1 = .ok (.getfield 36, 3) := by decide +kernel
theorem d_X12_must__4 : decode mX12_must_.2.2.1 4 = .ok (.ifCond .le 4, 3) := by decide +kernel
theorem d_X12_must__8 : decode mX12_must_.2.2.1 8 = .ok (.aload_n 0, 1) := by decide +kernel
theorem d_X12_must__9 : decode mX12_must_.2.2.1 9 = .ok (.lload_n 1, 1) := by decide +kernel
theorem d_X12_must__10 : decode mX12_must_.2.2.1 10 = .ok (.invokevirtual 484, 3) := by decide +kernel
theorem d_X12_must__13 : decode mX12_must_.2.2.1 13 = .ok (.ifCond .ne 12, 3) := by decide +kernel
theorem d_X12_must__16 : decode mX12_must_.2.2.1 16 = .ok (.aload_n 0, 1) := by decide +kernel
theorem d_X12_must__17 : decode mX12_must_.2.2.1 17 = .ok (.iconst 1, 1) := by decide +kernel
theorem d_X12_must__18 : decode mX12_must_.2.2.1 18 = .ok (.aload_n 0, 1) := by decide +kernel
theorem d_X12_must__19 : decode mX12_must_.2.2.1 19 = .ok (.getfield 23, 3) := by decide +kernel
theorem d_X12_must__22 : decode mX12_must_.2.2.1 22 = .ok (.invokevirtual 389, 3) := by decide +kernel
theorem d_X12_must__7 : decode mX12_must_.2.2.1 7 = .ok (.return_, 1) := by decide +kernel
theorem d_X12_must__25 : decode mX12_must_.2.2.1 25 = .ok (.aload_n 0, 1) := by decide +kernel
theorem d_X12_must__26 : decode mX12_must_.2.2.1 26 = .ok (.getfield 36, 3) := by decide +kernel
theorem d_X12_must__29 : decode mX12_must_.2.2.1 29 = .ok (.ifCond .ne 7, 3) := by decide +kernel
theorem d_X12_must__36 : decode mX12_must_.2.2.1 36 = .ok (.return_, 1) := by decide +kernel
theorem d_X12_must__32 : decode mX12_must_.2.2.1 32 = .ok (.aload_n 0, 1) := by decide +kernel
theorem d_X12_must__33 : decode mX12_must_.2.2.1 33 = .ok (.invokevirtual 396, 3) := by decide +kernel
theorem ok_X12_must_ : e_m mX12_must_ 1 := ⟨tblG_in (inT8 (List.mem_of_getElem? (i := 179) rfl)) rfl, plainFor_of_name (by decide), rfl, ini_12, by decide +kernel, by decide⟩
theorem d_X12_part_66 : decode mX12_part.2.2.1 66 = .ok (.aload_n 0, 1) := by decide +kernel
theorem d_X12_part_67 : decode mX12_part.2.2.1 67 = .ok (.getfield 79, 3) := by decide +kernel
theorem d_X12_part_70 : decode mX12_part.2.2.1 70 = .ok (.bipush 6, 2) := by decide +kernel
theorem d_X12_part_72 : decode mX12_part.2.2.1 72 = .ok (.iload_n 1, 1) := by decide +kernel
theorem d_X12_part_73 : decode mX12_part.2.2.1 73 = .ok (.imul, 1) := by decide +kernel
theorem d_X12_part_74 : decode mX12_part.2.2.1 74 = .ok (.aload_n 0, 1) := by decide +kernel
theorem d_X12_part_75 : decode mX12_part.2.2.1 75 = .ok (.iconst 0, 1) := by decide +kernel
theorem d_X12_part_76 : decode mX12_part.2.2.1 76 = .ok (.sipush 999, 3) := by decide +kernel
theorem d_X12_part_79 : decode mX12_part.2.2.1 79 = .ok (.invokevirtual 516, 3) := by decide +kernel
theorem d_X12_part_82 : decode mX12_part.2.2.1 82 = .ok (.iastore, 1) := by decide +kernel
theorem d_X12_part_83 : decode mX12_part.2.2.1 83 = .ok (.aload_n 0, 1) := by decide +kernel
theorem d_X12_part_84 : decode mX12_part.2.2.1 84 = .ok (.ldc2_w 407, 3) := by decide +kernel
theorem d_X12_part_87 : decode mX12_part.2.2.1 87 = .ok (.invokevirtual 512, 3) := by decide +kernel
theorem d_X12_part_90 : decode mX12_part.2.2.1 90 = .ok (.aload_n 0, 1) := by decide +kernel
theorem d_X12_part_91 : decode mX12_part.2.2.1 91 = .ok (.getfield 79, 3) := by decide +kernel
theorem d_X12_part_94 : decode mX12_part.2.2.1 94 = .ok (.bipush 6, 2) := by decide +kernel
theorem d_X12_part_96 : decode mX12_part.2.2.1 96 = .ok (.iload_n 1, 1) := by decide +kernel
theorem d_X12_part_97 : decode mX12_part.2.2.1 97 = .ok (.imul, 1) := by decide +kernel
theorem d_X12_part_98 : decode mX12_part.2.2.1 98 = .ok (.iconst 1, 1) := by decide +kernel
theorem d_X12_part_99 : decode mX12_part.2.2.1 99 = .ok (.iadd, 1) := by decide +kernel
theorem d_X12_part_100 : decode mX12_part.2.2.1 100 = .ok (.aload_n 0, 1) := by decide +kernel
theorem d_X12_part_101 : decode mX12_part.2.2.1 101 = .ok (.iconst 0, 1) := by decide +kernel
theorem d_X12_part_102 : decode mX12_part.2.2.1 102 = .ok (.bipush 20, 2) := by decide +kernel
theorem d_X12_part_104 : decode mX12_part.2.2.1 104 = .ok (.invokevirtual 516, 3) := by decide +kernel
theorem d_X12_part_107 : decode mX12_part.2.2.1 107 = .ok (.iastore, 1) := by decide +kernel
theorem d_X12_part_108 : decode mX12_part.2.2.1 108 = .ok (.aload_n 0, 1) := by decide +kernel
theorem d_X12_part_109 : decode mX12_part.2.2.1 109 = .ok (.getfield 79, 3) := by decide +kernel
theorem d_X12_part_112 : decode mX12_part.2.2.1 112 = .ok (.bipush 6, 2) := by decide +kernel
theorem d_X12_part_114 : decode mX12_part.2.2.1 114 = .ok (.iload_n 1, 1) := by decide +kernel
theorem d_X12_part_115 : decode mX12_part.2.2.1 115 = .ok (.imul, 1) := by decide +kernel
theorem d_X12_part_116 : decode mX12_part.2.2.1 116 = .ok (.iconst 2, 1) := by decide +kernel
theorem d_X12_part_117 : decode mX12_part.2.2.1 117 = .ok (.iadd, 1) := by decide +kernel
theorem d_X12_part_118 : decode mX12_part.2.2.1 118 = .ok (.aload_n 0, 1) := by decide +kernel
theorem d_X12_part_119 : decode mX12_part.2.2.1 119 = .ok (.iconst 0, 1) := by decide +kernel
theorem d_X12_part_120 : decode mX12_part.2.2.1 120 = .ok (.sipush 999, 3) := by decide +kernel
theorem d_X12_part_123 : decode mX12_part.2.2.1 123 = .ok (.invokevirtual 516, 3) := by decide +kernel
theorem d_X12_part_126 : decode mX12_part.2.2.1 126 = .ok (.iastore, 1) := by decide +kernel
theorem d_X12_part_127 : decode mX12_part.2.2.1 127 = .ok (.aload_n 0, 1) := by decide +kernel
theorem d_X12_part_128 : decode mX12_part.2.2.1 128 = .ok (.ldc2_w 409, 3) := by decide +kernel
theorem d_X12_part_131 : decode mX12_part.2.2.1 131 = .ok (.invokevirtual 512, 3) := by decide +kernel
theorem d_X12_part_134 : decode mX12_part.2.2.1 134 = .ok (.aload_n 0, 1) := by decide +kernel
theorem d_X12_part_135 : decode mX12_part.2.2.1 135 = .ok (.getfield 79, 3) := by decide +kernel
theorem d_X12_part_138 : decode mX12_part.2.2.1 138 = .ok (.bipush 6, 2) := by decide +kernel
theorem d_X12_part_140 : decode mX12_part.2.2.1 140 = .ok (.iload_n 1, 1) := by decide +kernel
theorem d_X12_part_141 : decode mX12_part.2.2.1 141 = .ok (.imul, 1) := by decide +kernel
theorem d_X12_part_142 : decode mX12_part.2.2.1 142 = .ok (.iconst 3, 1) := by decide +kernel
theorem d_X12_part_143 : decode mX12_part.2.2.1 143 = .ok (.iadd, 1) := by decide +kernel
theorem d_X12_part_144 : decode mX12_part.2.2.1 144 = .ok (.aload_n 0, 1) := by decide +kernel
theorem d_X12_part_145 : decode mX12_part.2.2.1 145 = .ok (.iconst 0, 1) := by decide +kernel
theorem d_X12_part_146 : decode mX12_part.2.2.1 146 = .ok (.sipush 999, 3) := by decide +kernel
theorem d_X12_part_149 : decode mX12_part.2.2.1 149 = .ok (.invokevirtual 516, 3) := by decide +kernel
theorem d_X12_part_152 : decode mX12_part.2.2.1 152 = .ok (.iastore, 1) := by decide +kernel
theorem d_X12_part_153 : decode mX12_part.2.2.1 153 = .ok (.aload_n 0, 1) := by decide +kernel
theorem d_X12_part_154 : decode mX12_part.2.2.1 154 = .ok (.ldc2_w 411, 3) := by decide +kernel
theorem d_X12_part_157 : decode mX12_part.2.2.1 157 = .ok (.invokevirtual 512, 3) := by decide +kernel
theorem d_X12_part_160 : decode mX12_part.2.2.1 160 = .ok (.aload_n 0, 1) := by decide +kernel
theorem d_X12_part_161 : decode mX12_part.2.2.1 161 = .ok (.getfield 79, 3) := by decide +kernel
theorem d_X12_part_164 : decode mX12_part.2.2.1 164 = .ok (.bipush 6, 2) := by decide +kernel
theorem d_X12_part_166 : decode mX12_part.2.2.1 166 = .ok (.iload_n 1, 1) := by decide +kernel
theorem d_X12_part_167 : decode mX12_part.2.2.1 167 = .ok (.imul, 1) := by decide +kernel
theorem d_X12_part_168 : decode mX12_part.2.2.1 168 = .ok (.iconst 4, 1) := by decide +kernel
theorem d_X12_part_169 : decode mX12_part.2.2.1 169 = .ok (.iadd, 1) := by decide +kernel
theorem d_X12_part_170 : decode mX12_part.2.2.1 170 = .ok (.aload_n 0, 1) := by decide +kernel
theorem d_X12_part_171 : decode mX12_part.2.2.1 171 = .ok (.iconst 0, 1) := by decide +kernel
theorem d_X12_part_172 : decode mX12_part.2.2.1 172 = .ok (.sipush 999, 3) := by decide +kernel
theorem d_X12_part_175 : decode mX12_part.2.2.1 175 = .ok (.invokevirtual 516, 3) := by decide +kernel
theorem d_X12_part_178 : decode mX12_part.2.2.1 178 = .ok (.iastore, 1) := by decide +kernel
theorem d_X12_part_179 : decode mX12_part.2.2.1 179 = .ok (.aload_n 0, 1) := by decide +kernel
theorem d_X12_part_180 : decode mX12_part.2.2.1 180 = .ok (.ldc2_w 413, 3) := by decide +kernel
theorem d_X12_part_183 : decode mX12_part.2.2.1 183 = .ok (.invokevirtual 512, 3) := by decide +kernel
theorem d_X12_part_186 : decode mX12_part.2.2.1 186 = .ok (.aload_n 0, 1) := by decide +kernel
theorem d_X12_part_187 : decode mX12_part.2.2.1 187 = .ok (.getfield 79, 3) := by decide +kernel
theorem d_X12_part_190 : decode mX12_part.2.2.1 190 = .ok (.bipush 6, 2) := by decide +kernel
theorem d_X12_part_192 : decode mX12_part.2.2.1 192 = .ok (.iload_n 1, 1) := by decide +kernel
theorem d_X12_part_193 : decode mX12_part.2.2.1 193 = .ok (.imul, 1) := by decide +kernel
theorem d_X12_part_194 : decode mX12_part.2.2.1 194 = .ok (.iconst 5, 1) := by decide +kernel
theorem d_X12_part_195 : decode mX12_part.2.2.1 195 = .ok (.iadd, 1) := by decide +kernel
theorem d_X12_part_196 : decode mX12_part.2.2.1 196 = .ok (.aload_n 0, 1) := by decide +kernel
theorem d_X12_part_197 : decode mX12_part.2.2.1 197 = .ok (.iconst 0, 1) := by decide +kernel
theorem d_X12_part_198 : decode mX12_part.2.2.1 198 = .ok (.bipush 50, 2) := by decide +kernel
theorem d_X12_part_200 : decode mX12_part.2.2.1 200 = .ok (.invokevirtual 516, 3) := by decide +kernel
theorem d_X12_part_203 : decode mX12_part.2.2.1 203 = .ok (.iastore, 1) := by decide +kernel
theorem d_X12_part_204 : decode mX12_part.2.2.1 204 = .ok (.aload_n 0, 1) := by decide +kernel
theorem d_X12_part_205 : decode mX12_part.2.2.1 205 = .ok (.getfield 36, 3) := by decide +kernel
theorem d_X12_part_208 : decode mX12_part.2.2.1 208 = .ok (.ifCond .ne 16, 3) := by decide +kernel
theorem d_X12_part_224 : decode mX12_part.2.2.1 224 = .ok (.return_, 1) := by decide +kernel
theorem d_X12_part_211 : decode mX12_part.2.2.1 211 = .ok (.aload_n 0, 1) := by decide +kernel
theorem d_X12_part_212 : decode mX12_part.2.2.1 212 = .ok (.getfield 63, 3) := by decide +kernel
theorem d_X12_part_215 : decode mX12_part.2.2.1 215 = .ok (.aload_n 0, 1) := by decide +kernel
theorem d_X12_part_216 : decode mX12_part.2.2.1 216 = .ok (.getfield 124, 3) := by decide +kernel
theorem d_X12_part_219 : decode mX12_part.2.2.1 219 = .ok (.dup2, 1) := by decide +kernel
theorem d_X12_part_220 : decode mX12_part.2.2.1 220 = .ok (.iaload, 1) := by decide +kernel
theorem d_X12_part_221 : decode mX12_part.2.2.1 221 = .ok (.iconst 1, 1) := by decide +kernel
theorem d_X12_part_222 : decode mX12_part.2.2.1 222 = .ok (.iadd, 1) := by decide +kernel
theorem d_X12_part_223 : decode mX12_part.2.2.1 223 = .ok (.iastore, 1) := by decide +kernel
theorem d_X12_part_30 : decode mX12_part.2.2.1 30 = .ok (.return_, 1) := by decide +kernel
theorem ok_X12_part : e_m mX12_part 0 := ⟨tblG_in (inT8 (List.mem_of_getElem? (i := 127) rfl)) rfl, plainFor_of_name (by decide), rfl, ini_12, by decide +kernel, by decide⟩
theorem d_X12_declares_113 : decode mX12_declares.2.2.1 113 = .ok (.goto 39, 3) := by decide +kernel
theorem d_X12_declares_44 : decode mX12_declares.2.2.1 44 = .ok (.aload_n 0, 1) := by decide +kernel
theorem d_X12_declares_45 : decode mX12_declares.2.2.1 45 = .ok (.invokevirtual 396, 3) := by decide +kernel
theorem d_X12_declares_48 : decode mX12_declares.2.2.1 48 = .ok (.aload_n 0, 1) := by decide +kernel
theorem d_X12_declares_49 : decode mX12_declares.2.2.1 49 = .ok (.getfield 54, 3) := by decide +kernel
theorem d_X12_declares_52 : decode mX12_declares.2.2.1 52 = .ok (.aload_n 0, 1) := by decide +kernel
theorem d_X12_declares_53 : decode mX12_declares.2.2.1 53 = .ok (.getfield 124, 3) := by decide +kernel
theorem d_X12_declares_56 : decode mX12_declares.2.2.1 56 = .ok (.aload_n 0, 1) := by decide +kernel
theorem d_X12_declares_57 : decode mX12_declares.2.2.1 57 = .ok (.iconst 1, 1) := by decide +kernel
theorem d_X12_declares_58 : decode mX12_declares.2.2.1 58 = .ok (.bipush 8, 2) := by decide +kernel
theorem d_X12_declares_60 : decode mX12_declares.2.2.1 60 = .ok (.invokevirtual 516, 3) := by decide +kernel
theorem d_X12_declares_63 : decode mX12_declares.2.2.1 63 = .ok (.iastore, 1) := by decide +kernel
theorem d_X12_declares_64 : decode mX12_declares.2.2.1 64 = .ok (.aload_n 0, 1) := by decide +kernel
theorem d_X12_declares_65 : decode mX12_declares.2.2.1 65 = .ok (.getfield 57, 3) := by decide +kernel
theorem d_X12_declares_68 : decode mX12_declares.2.2.1 68 = .ok (.aload_n 0, 1) := by decide +kernel
theorem d_X12_declares_69 : decode mX12_declares.2.2.1 69 = .ok (.getfield 124, 3) := by decide +kernel
theorem d_X12_declares_72 : decode mX12_declares.2.2.1 72 = .ok (.aload_n 0, 1) := by decide +kernel
theorem d_X12_declares_73 : decode mX12_declares.2.2.1 73 = .ok (.iconst 1, 1) := by decide +kernel
theorem d_X12_declares_74 : decode mX12_declares.2.2.1 74 = .ok (.bipush 8, 2) := by decide +kernel
theorem d_X12_declares_76 : decode mX12_declares.2.2.1 76 = .ok (.invokevirtual 516, 3) := by decide +kernel
theorem d_X12_declares_79 : decode mX12_declares.2.2.1 79 = .ok (.iastore, 1) := by decide +kernel
theorem d_X12_declares_80 : decode mX12_declares.2.2.1 80 = .ok (.aload_n 0, 1) := by decide +kernel
theorem d_X12_declares_81 : decode mX12_declares.2.2.1 81 = .ok (.getfield 60, 3) := by decide +kernel
theorem d_X12_declares_84 : decode mX12_declares.2.2.1 84 = .ok (.aload_n 0, 1) := by decide +kernel
theorem d_X12_declares_85 : decode mX12_declares.2.2.1 85 = .ok (.getfield 124, 3) := by decide +kernel
theorem d_X12_declares_88 : decode mX12_declares.2.2.1 88 = .ok (.aload_n 0, 1) := by decide +kernel
theorem d_X12_declares_89 : decode mX12_declares.2.2.1 89 = .ok (.iconst 0, 1) := by decide +kernel
theorem d_X12_declares_90 : decode mX12_declares.2.2.1 90 = .ok (.bipush 20, 2) := by decide +kernel
theorem d_X12_declares_92 : decode mX12_declares.2.2.1 92 = .ok (.invokevirtual 516, 3) := by decide +kernel
theorem d_X12_declares_95 : decode mX12_declares.2.2.1 95 = .ok (.iastore, 1) := by decide +kernel
theorem d_X12_declares_96 : decode mX12_declares.2.2.1 96 = .ok (.goto 56, 3) := by decide +kernel
theorem d_X12_declares_10 : decode mX12_declares.2.2.1 10 = .ok (.aload_n 0, 1) := by decide +kernel
theorem d_X12_declares_11 : decode mX12_declares.2.2.1 11 = .ok (.invokevirtual 396, 3) := by decide +kernel
theorem d_X12_declares_14 : decode mX12_declares.2.2.1 14 = .ok (.aload_n 0, 1) := by decide +kernel
theorem d_X12_declares_15 : decode mX12_declares.2.2.1 15 = .ok (.getfield 51, 3) := by decide +kernel
theorem d_X12_declares_18 : decode mX12_declares.2.2.1 18 = .ok (.aload_n 0, 1) := by decide +kernel
theorem d_X12_declares_19 : decode mX12_declares.2.2.1 19 = .ok (.getfield 124, 3) := by decide +kernel
theorem d_X12_declares_22 : decode mX12_declares.2.2.1 22 = .ok (.aload_n 0, 1) := by decide +kernel
theorem d_X12_declares_23 : decode mX12_declares.2.2.1 23 = .ok (.iconst 0, 1) := by decide +kernel
theorem d_X12_declares_24 : decode mX12_declares.2.2.1 24 = .ok (.sipush 999, 3) := by decide +kernel
theorem d_X12_declares_27 : decode mX12_declares.2.2.1 27 = .ok (.invokevirtual 516, 3) := by decide +kernel
theorem d_X12_declares_30 : decode mX12_declares.2.2.1 30 = .ok (.iastore, 1) := by decide +kernel
theorem d_X12_declares_31 : decode mX12_declares.2.2.1 31 = .ok (.goto 121, 3) := by decide +kernel
theorem d_X12_declares_152 : decode mX12_declares.2.2.1 152 = .ok (.aload_n 0, 1) := by decide +kernel
theorem d_X12_declares_153 : decode mX12_declares.2.2.1 153 = .ok (.bipush 59, 2) := by decide +kernel
theorem d_X12_declares_155 : decode mX12_declares.2.2.1 155 = .ok (.invokevirtual 529, 3) := by decide +kernel
def mX12_must : MD := (12, yX12_must, cX12_must, 2, none)
theorem sel_X12_must : Cond.instanceMethod mX12_must.2.1 ∈ tblG ∧ Cond.selects mX12_must.2.1.cls mX12_must.2.1 mX12_must.2.1 ∈ tblG := ⟨tblG_in (inT8 (List.mem_of_getElem? (i := 190) rfl)) rfl, tblG_in (inP6 (q := (mX12_must.2.1, 121)) (List.mem_of_getElem? (i := 8) rfl)) rfl⟩
theorem s_12_529 : e_siteV 12 529 mX12_must 12 := ⟨tblG_in (inT8 (List.mem_of_getElem? (i := 188) rfl)) rfl, sel_X12_must.1, sel_X12_must.2, rfl⟩
theorem d_X12_must_0 : decode mX12_must.2.2.1 0 = .ok (.aload_n 0, 1) := by decide +kernel
theorem d_X12_must_1 : decode mX12_must.2.2.1 1 = .ok (.iload_n 1, 1) := by decide +kernel
theorem d_X12_must_2 : decode mX12_must.2.2.1 2 = .ok (.invokevirtual 393, 3) := by decide +kernel
def mX12_isSign : MD := (12, yX12_isSign, cX12_isSign, 2, some .boolean)
theorem sel_X12_isSign : Cond.instanceMethod mX12_isSign.2.1 ∈ tblG ∧ Cond.selects mX12_isSign.2.1.cls mX12_isSign.2.1 mX12_isSign.2.1 ∈ tblG := ⟨tblG_in (inT8 (List.mem_of_getElem? (i := 194) rfl)) rfl, tblG_in (inP6 (q := (mX12_isSign.2.1, 121)) (List.mem_of_getElem? (i := 9) rfl)) rfl⟩
theorem s_12_393 : e_siteV 12 393 mX12_isSign 12 := ⟨tblG_in (inT8 (List.mem_of_getElem? (i := 192) rfl)) rfl, sel_X12_isSign.1, sel_X12_isSign.2, rfl⟩
theorem d_X12_isSign_0 : decode mX12_isSign.2.2.1 0 = .ok (.aload_n 0, 1) := by decide +kernel
theorem d_X12_isSign_1 : decode mX12_isSign.2.2.1 1 = .ok (.getfield 20, 3) := by decide +kernel
theorem d_X12_isSign_4 : decode mX12_isSign.2.2.1 4 = .ok (.iconst 3, 1) := by decide +kernel
theorem d_X12_isSign_5 : decode mX12_isSign.2.2.1 5 = .ok (.if_icmp .ne 15, 3) := by decide +kernel
theorem d_X12_isSign_20 : decode mX12_isSign.2.2.1 20 = .ok (.iconst 0, 1) := by decide +kernel
theorem d_X12_isSign_21 : decode mX12_isSign.2.2.1 21 = .ok (.ireturn, 1) := by decide +kernel
theorem d_X12_isSign_8 : decode mX12_isSign.2.2.1 8 = .ok (.aload_n 0, 1) := by decide +kernel
theorem d_X12_isSign_9 : decode mX12_isSign.2.2.1 9 = .ok (.getfield 29, 3) := by decide +kernel
theorem d_X12_isSign_12 : decode mX12_isSign.2.2.1 12 = .ok (.iload_n 1, 1) := by decide +kernel
theorem d_X12_isSign_13 : decode mX12_isSign.2.2.1 13 = .ok (.if_icmp .ne 7, 3) := by decide +kernel
theorem d_X12_isSign_16 : decode mX12_isSign.2.2.1 16 = .ok (.iconst 1, 1) := by decide +kernel
theorem d_X12_isSign_17 : decode mX12_isSign.2.2.1 17 = .ok (.goto 4, 3) := by decide +kernel
theorem ok_X12_isSign : e_m mX12_isSign 1 := ⟨tblG_in (inT8 (List.mem_of_getElem? (i := 195) rfl)) rfl, plainFor_of_name (by decide), rfl, ini_12, by decide +kernel, by decide⟩
theorem d_X12_must_5 : decode mX12_must.2.2.1 5 = .ok (.ifCond .ne 12, 3) := by decide +kernel
theorem d_X12_must_8 : decode mX12_must.2.2.1 8 = .ok (.aload_n 0, 1) := by decide +kernel
theorem d_X12_must_9 : decode mX12_must.2.2.1 9 = .ok (.iconst 1, 1) := by decide +kernel
theorem d_X12_must_10 : decode mX12_must.2.2.1 10 = .ok (.aload_n 0, 1) := by decide +kernel
theorem d_X12_must_11 : decode mX12_must.2.2.1 11 = .ok (.getfield 23, 3) := by decide +kernel
theorem d_X12_must_14 : decode mX12_must.2.2.1 14 = .ok (.invokevirtual 389, 3) := by decide +kernel
theorem d_X12_must_17 : decode mX12_must.2.2.1 17 = .ok (.aload_n 0, 1) := by decide +kernel
theorem d_X12_must_18 : decode mX12_must.2.2.1 18 = .ok (.getfield 36, 3) := by decide +kernel
theorem d_X12_must_21 : decode mX12_must.2.2.1 21 = .ok (.ifCond .ne 7, 3) := by decide +kernel
theorem d_X12_must_28 : decode mX12_must.2.2.1 28 = .ok (.return_, 1) := by decide +kernel
theorem d_X12_must_24 : decode mX12_must.2.2.1 24 = .ok (.aload_n 0, 1) := by decide +kernel
theorem d_X12_must_25 : decode mX12_must.2.2.1 25 = .ok (.invokevirtual 396, 3) := by decide +kernel
theorem ok_X12_must : e_m mX12_must 1 := ⟨tblG_in (inT8 (List.mem_of_getElem? (i := 191) rfl)) rfl, plainFor_of_name (by decide), rfl, ini_12, by decide +kernel, by decide⟩
theorem d_X12_declares_158 : decode mX12_declares.2.2.1 158 = .ok (.iconst 1, 1) := by decide +kernel
theorem d_X12_declares_159 : decode mX12_declares.2.2.1 159 = .ok (.ireturn, 1) := by decide +kernel
theorem ok_X12_declares : e_m mX12_declares 0 := ⟨tblG_in (inT8 (List.mem_of_getElem? (i := 109) rfl)) rfl, plainFor_of_name (by decide), rfl, ini_12, by decide +kernel, by decide⟩
theorem d_X12_text_171 : decode mX12_text.2.2.1 171 = .ok (.ifCond .eq 7, 3) := by decide +kernel
theorem d_X12_text_174 : decode mX12_text.2.2.1 174 = .ok (.iconst 1, 1) := by decide +kernel
theorem d_X12_text_175 : decode mX12_text.2.2.1 175 = .ok (.goto 4, 3) := by decide +kernel
theorem d_X12_text_183 : decode mX12_text.2.2.1 183 = .ok (.aload_n 0, 1) := by decide +kernel
theorem d_X12_text_184 : decode mX12_text.2.2.1 184 = .ok (.getfield 36, 3) := by decide +kernel
theorem d_X12_text_187 : decode mX12_text.2.2.1 187 = .ok (.ifCond .ne 47, 3) := by decide +kernel
theorem d_X12_text_234 : decode mX12_text.2.2.1 234 = .ok (.aload_n 0, 1) := by decide +kernel
theorem d_X12_text_235 : decode mX12_text.2.2.1 235 = .ok (.aload_n 0, 1) := by decide +kernel
theorem d_X12_text_236 : decode mX12_text.2.2.1 236 = .ok (.getfield 36, 3) := by decide +kernel
theorem d_X12_text_239 : decode mX12_text.2.2.1 239 = .ok (.putfield 42, 3) := by decide +kernel
theorem d_X12_text_242 : decode mX12_text.2.2.1 242 = .ok (.aload_n 0, 1) := by decide +kernel
theorem d_X12_text_243 : decode mX12_text.2.2.1 243 = .ok (.aload_n 0, 1) := by decide +kernel
theorem d_X12_text_244 : decode mX12_text.2.2.1 244 = .ok (.getfield 39, 3) := by decide +kernel
theorem d_X12_text_247 : decode mX12_text.2.2.1 247 = .ok (.putfield 45, 3) := by decide +kernel
theorem d_X12_text_250 : decode mX12_text.2.2.1 250 = .ok (.aload_n 0, 1) := by decide +kernel
theorem d_X12_text_251 : decode mX12_text.2.2.1 251 = .ok (.getfield 36, 3) := by decide +kernel
theorem d_X12_text_254 : decode mX12_text.2.2.1 254 = .ok (.ifCond .le 5, 3) := by decide +kernel
theorem d_X12_text_257 : decode mX12_text.2.2.1 257 = .ok (.iconst (-1), 1) := by decide +kernel
theorem d_X12_text_258 : decode mX12_text.2.2.1 258 = .ok (.ireturn, 1) := by decide +kernel
theorem d_X12_text_178 : decode mX12_text.2.2.1 178 = .ok (.iconst 0, 1) := by decide +kernel
theorem d_X12_text_179 : decode mX12_text.2.2.1 179 = .ok (.istore_n 1, 1) := by decide +kernel
theorem d_X12_text_180 : decode mX12_text.2.2.1 180 = .ok (.goto (-31), 3) := by decide +kernel
theorem d_X12_text_190 : decode mX12_text.2.2.1 190 = .ok (.aload_n 0, 1) := by decide +kernel
theorem d_X12_text_191 : decode mX12_text.2.2.1 191 = .ok (.getfield 20, 3) := by decide +kernel
theorem d_X12_text_194 : decode mX12_text.2.2.1 194 = .ok (.ifCond .ne 10, 3) := by decide +kernel
theorem d_X12_text_197 : decode mX12_text.2.2.1 197 = .ok (.aload_n 0, 1) := by decide +kernel
theorem d_X12_text_198 : decode mX12_text.2.2.1 198 = .ok (.getfield 165, 3) := by decide +kernel
theorem d_X12_text_201 : decode mX12_text.2.2.1 201 = .ok (.ifCond .le 33, 3) := by decide +kernel
theorem d_X12_text_259 : decode mX12_text.2.2.1 259 = .ok (.aload_n 0, 1) := by decide +kernel
end
/-! 35.18 -/
section
theorem d_X12_text_260 : decode mX12_text.2.2.1 260 = .ok (.aload_n 0, 1) := by decide +kernel
theorem d_X12_text_261 : decode mX12_text.2.2.1 261 = .ok (.getfield 124, 3) := by decide +kernel
theorem d_X12_text_264 : decode mX12_text.2.2.1 264 = .ok (.putfield 48, 3) := by decide +kernel
theorem d_X12_text_267 : decode mX12_text.2.2.1 267 = .ok (.iconst 0, 1) := by decide +kernel
theorem d_X12_text_268 : decode mX12_text.2.2.1 268 = .ok (.istore_n 2, 1) := by decide +kernel
theorem d_X12_text_269 : decode mX12_text.2.2.1 269 = .ok (.iload_n 2, 1) := by decide +kernel
theorem d_X12_text_270 : decode mX12_text.2.2.1 270 = .ok (.iconst 3, 1) := by decide +kernel
theorem d_X12_text_271 : decode mX12_text.2.2.1 271 = .ok (.if_icmp .ge 45, 3) := by decide +kernel
theorem d_X12_text_274 : decode mX12_text.2.2.1 274 = .ok (.aload_n 0, 1) := by decide +kernel
theorem d_X12_text_275 : decode mX12_text.2.2.1 275 = .ok (.getfield 168, 3) := by decide +kernel
theorem d_X12_text_278 : decode mX12_text.2.2.1 278 = .ok (.iload_n 2, 1) := by decide +kernel
theorem d_X12_text_279 : decode mX12_text.2.2.1 279 = .ok (.iload_n 2, 1) := by decide +kernel
theorem d_X12_text_280 : decode mX12_text.2.2.1 280 = .ok (.aload_n 0, 1) := by decide +kernel
theorem d_X12_text_281 : decode mX12_text.2.2.1 281 = .ok (.getfield 66, 3) := by decide +kernel
theorem d_X12_text_284 : decode mX12_text.2.2.1 284 = .ok (.aload_n 0, 1) := by decide +kernel
theorem d_X12_text_285 : decode mX12_text.2.2.1 285 = .ok (.getfield 48, 3) := by decide +kernel
theorem d_X12_text_288 : decode mX12_text.2.2.1 288 = .ok (.iaload, 1) := by decide +kernel
theorem d_X12_text_289 : decode mX12_text.2.2.1 289 = .ok (.if_icmp .ge 19, 3) := by decide +kernel
theorem d_X12_text_308 : decode mX12_text.2.2.1 308 = .ok (.iconst 0, 1) := by decide +kernel
theorem d_X12_text_292 : decode mX12_text.2.2.1 292 = .ok (.aload_n 0, 1) := by decide +kernel
theorem d_X12_text_293 : decode mX12_text.2.2.1 293 = .ok (.getfield 85, 3) := by decide +kernel
theorem d_X12_text_296 : decode mX12_text.2.2.1 296 = .ok (.iconst 3, 1) := by decide +kernel
theorem d_X12_text_297 : decode mX12_text.2.2.1 297 = .ok (.aload_n 0, 1) := by decide +kernel
theorem d_X12_text_298 : decode mX12_text.2.2.1 298 = .ok (.getfield 48, 3) := by decide +kernel
theorem d_X12_text_301 : decode mX12_text.2.2.1 301 = .ok (.imul, 1) := by decide +kernel
theorem d_X12_text_302 : decode mX12_text.2.2.1 302 = .ok (.iload_n 2, 1) := by decide +kernel
theorem d_X12_text_303 : decode mX12_text.2.2.1 303 = .ok (.iadd, 1) := by decide +kernel
theorem d_X12_text_304 : decode mX12_text.2.2.1 304 = .ok (.iaload, 1) := by decide +kernel
theorem d_X12_text_305 : decode mX12_text.2.2.1 305 = .ok (.goto 4, 3) := by decide +kernel
theorem d_X12_text_309 : decode mX12_text.2.2.1 309 = .ok (.iastore, 1) := by decide +kernel
theorem d_X12_text_310 : decode mX12_text.2.2.1 310 = .ok (.iinc 2 1, 3) := by decide +kernel
theorem d_X12_text_313 : decode mX12_text.2.2.1 313 = .ok (.goto (-44), 3) := by decide +kernel
theorem d_X12_text_316 : decode mX12_text.2.2.1 316 = .ok (.aload_n 0, 1) := by decide +kernel
theorem d_X12_text_317 : decode mX12_text.2.2.1 317 = .ok (.iconst 0, 1) := by decide +kernel
theorem d_X12_text_318 : decode mX12_text.2.2.1 318 = .ok (.putfield 270, 3) := by decide +kernel
theorem d_X12_text_321 : decode mX12_text.2.2.1 321 = .ok (.aload_n 0, 1) := by decide +kernel
theorem d_X12_text_322 : decode mX12_text.2.2.1 322 = .ok (.iconst 0, 1) := by decide +kernel
theorem d_X12_text_323 : decode mX12_text.2.2.1 323 = .ok (.putfield 327, 3) := by decide +kernel
theorem d_X12_text_326 : decode mX12_text.2.2.1 326 = .ok (.aload_n 0, 1) := by decide +kernel
theorem d_X12_text_327 : decode mX12_text.2.2.1 327 = .ok (.iconst 0, 1) := by decide +kernel
theorem d_X12_text_328 : decode mX12_text.2.2.1 328 = .ok (.putfield 333, 3) := by decide +kernel
theorem d_X12_text_331 : decode mX12_text.2.2.1 331 = .ok (.aload_n 0, 1) := by decide +kernel
theorem d_X12_text_332 : decode mX12_text.2.2.1 332 = .ok (.iconst 0, 1) := by decide +kernel
theorem d_X12_text_333 : decode mX12_text.2.2.1 333 = .ok (.putfield 342, 3) := by decide +kernel
theorem d_X12_text_336 : decode mX12_text.2.2.1 336 = .ok (.aload_n 0, 1) := by decide +kernel
theorem d_X12_text_337 : decode mX12_text.2.2.1 337 = .ok (.getfield 72, 3) := by decide +kernel
theorem d_X12_text_340 : decode mX12_text.2.2.1 340 = .ok (.aload_n 0, 1) := by decide +kernel
theorem d_X12_text_341 : decode mX12_text.2.2.1 341 = .ok (.getfield 48, 3) := by decide +kernel
theorem d_X12_text_344 : decode mX12_text.2.2.1 344 = .ok (.iaload, 1) := by decide +kernel
theorem d_X12_text_345 : decode mX12_text.2.2.1 345 = .ok (.ireturn, 1) := by decide +kernel
theorem d_X12_text_204 : decode mX12_text.2.2.1 204 = .ok (.aload_n 0, 1) := by decide +kernel
theorem d_X12_text_205 : decode mX12_text.2.2.1 205 = .ok (.getfield 165, 3) := by decide +kernel
theorem d_X12_text_208 : decode mX12_text.2.2.1 208 = .ok (.ifCond .le 19, 3) := by decide +kernel
theorem d_X12_text_227 : decode mX12_text.2.2.1 227 = .ok (.aload_n 0, 1) := by decide +kernel
theorem d_X12_text_228 : decode mX12_text.2.2.1 228 = .ok (.invokevirtual 550, 3) := by decide +kernel
def mX12_statement : MD := (12, yX12_statement, cX12_statement, 3, none)
theorem sel_X12_statement : Cond.instanceMethod mX12_statement.2.1 ∈ tblG ∧ Cond.selects mX12_statement.2.1.cls mX12_statement.2.1 mX12_statement.2.1 ∈ tblG := ⟨tblG_in (inT8 (List.mem_of_getElem? (i := 210) rfl)) rfl, tblG_in (inP6 (q := (mX12_statement.2.1, 121)) (List.mem_of_getElem? (i := 13) rfl)) rfl⟩
theorem s_12_550 : e_siteV 12 550 mX12_statement 12 := ⟨tblG_in (inT8 (List.mem_of_getElem? (i := 208) rfl)) rfl, sel_X12_statement.1, sel_X12_statement.2, rfl⟩
theorem d_X12_statement_0 : decode mX12_statement.2.2.1 0 = .ok (.aload_n 0, 1) := by decide +kernel
theorem d_X12_statement_1 : decode mX12_statement.2.2.1 1 = .ok (.invokevirtual 537, 3) := by decide +kernel
def mX12_order : MD := (12, yX12_order, cX12_order, 1, some .int)
theorem sel_X12_order : Cond.instanceMethod mX12_order.2.1 ∈ tblG ∧ Cond.selects mX12_order.2.1.cls mX12_order.2.1 mX12_order.2.1 ∈ tblG := ⟨tblG_in (inT8 (List.mem_of_getElem? (i := 214) rfl)) rfl, tblG_in (inP6 (q := (mX12_order.2.1, 121)) (List.mem_of_getElem? (i := 14) rfl)) rfl⟩
theorem s_12_537 : e_siteV 12 537 mX12_order 12 := ⟨tblG_in (inT8 (List.mem_of_getElem? (i := 212) rfl)) rfl, sel_X12_order.1, sel_X12_order.2, rfl⟩
theorem d_X12_order_0 : decode mX12_order.2.2.1 0 = .ok (.aload_n 0, 1) := by decide +kernel
theorem d_X12_order_1 : decode mX12_order.2.2.1 1 = .ok (.ldc2_w 419, 3) := by decide +kernel
theorem d_X12_order_4 : decode mX12_order.2.2.1 4 = .ok (.invokevirtual 484, 3) := by decide +kernel
theorem d_X12_order_7 : decode mX12_order.2.2.1 7 = .ok (.ifCond .eq 7, 3) := by decide +kernel
theorem d_X12_order_14 : decode mX12_order.2.2.1 14 = .ok (.aload_n 0, 1) := by decide +kernel
theorem d_X12_order_15 : decode mX12_order.2.2.1 15 = .ok (.ldc2_w 421, 3) := by decide +kernel
theorem d_X12_order_18 : decode mX12_order.2.2.1 18 = .ok (.invokevirtual 484, 3) := by decide +kernel
theorem d_X12_order_21 : decode mX12_order.2.2.1 21 = .ok (.ifCond .eq 7, 3) := by decide +kernel
theorem d_X12_order_28 : decode mX12_order.2.2.1 28 = .ok (.aload_n 0, 1) := by decide +kernel
theorem d_X12_order_29 : decode mX12_order.2.2.1 29 = .ok (.ldc2_w 423, 3) := by decide +kernel
theorem d_X12_order_32 : decode mX12_order.2.2.1 32 = .ok (.invokevirtual 484, 3) := by decide +kernel
theorem d_X12_order_35 : decode mX12_order.2.2.1 35 = .ok (.ifCond .eq 7, 3) := by decide +kernel
theorem d_X12_order_42 : decode mX12_order.2.2.1 42 = .ok (.aload_n 0, 1) := by decide +kernel
theorem d_X12_order_43 : decode mX12_order.2.2.1 43 = .ok (.ldc2_w 425, 3) := by decide +kernel
theorem d_X12_order_46 : decode mX12_order.2.2.1 46 = .ok (.invokevirtual 484, 3) := by decide +kernel
theorem d_X12_order_49 : decode mX12_order.2.2.1 49 = .ok (.ifCond .eq 7, 3) := by decide +kernel
theorem d_X12_order_56 : decode mX12_order.2.2.1 56 = .ok (.aload_n 0, 1) := by decide +kernel
theorem d_X12_order_57 : decode mX12_order.2.2.1 57 = .ok (.ldc2_w 427, 3) := by decide +kernel
theorem d_X12_order_60 : decode mX12_order.2.2.1 60 = .ok (.invokevirtual 484, 3) := by decide +kernel
theorem d_X12_order_63 : decode mX12_order.2.2.1 63 = .ok (.ifCond .eq 7, 3) := by decide +kernel
theorem d_X12_order_70 : decode mX12_order.2.2.1 70 = .ok (.aload_n 0, 1) := by decide +kernel
theorem d_X12_order_71 : decode mX12_order.2.2.1 71 = .ok (.ldc2_w 429, 3) := by decide +kernel
theorem d_X12_order_74 : decode mX12_order.2.2.1 74 = .ok (.invokevirtual 484, 3) := by decide +kernel
theorem d_X12_order_77 : decode mX12_order.2.2.1 77 = .ok (.ifCond .eq 8, 3) := by decide +kernel
theorem d_X12_order_85 : decode mX12_order.2.2.1 85 = .ok (.aload_n 0, 1) := by decide +kernel
theorem d_X12_order_86 : decode mX12_order.2.2.1 86 = .ok (.ldc2_w 431, 3) := by decide +kernel
theorem d_X12_order_89 : decode mX12_order.2.2.1 89 = .ok (.invokevirtual 484, 3) := by decide +kernel
theorem d_X12_order_92 : decode mX12_order.2.2.1 92 = .ok (.ifCond .eq 8, 3) := by decide +kernel
theorem d_X12_order_100 : decode mX12_order.2.2.1 100 = .ok (.aload_n 0, 1) := by decide +kernel
theorem d_X12_order_101 : decode mX12_order.2.2.1 101 = .ok (.ldc2_w 435, 3) := by decide +kernel
theorem d_X12_order_104 : decode mX12_order.2.2.1 104 = .ok (.invokevirtual 484, 3) := by decide +kernel
theorem d_X12_order_107 : decode mX12_order.2.2.1 107 = .ok (.ifCond .eq 8, 3) := by decide +kernel
theorem d_X12_order_115 : decode mX12_order.2.2.1 115 = .ok (.iconst (-1), 1) := by decide +kernel
theorem d_X12_order_116 : decode mX12_order.2.2.1 116 = .ok (.ireturn, 1) := by decide +kernel
theorem d_X12_order_110 : decode mX12_order.2.2.1 110 = .ok (.bipush 8, 2) := by decide +kernel
theorem d_X12_order_112 : decode mX12_order.2.2.1 112 = .ok (.goto 4, 3) := by decide +kernel
theorem d_X12_order_95 : decode mX12_order.2.2.1 95 = .ok (.bipush 7, 2) := by decide +kernel
theorem d_X12_order_97 : decode mX12_order.2.2.1 97 = .ok (.goto 19, 3) := by decide +kernel
theorem d_X12_order_80 : decode mX12_order.2.2.1 80 = .ok (.bipush 6, 2) := by decide +kernel
theorem d_X12_order_82 : decode mX12_order.2.2.1 82 = .ok (.goto 34, 3) := by decide +kernel
theorem d_X12_order_66 : decode mX12_order.2.2.1 66 = .ok (.iconst 5, 1) := by decide +kernel
theorem d_X12_order_67 : decode mX12_order.2.2.1 67 = .ok (.goto 49, 3) := by decide +kernel
theorem d_X12_order_52 : decode mX12_order.2.2.1 52 = .ok (.iconst 4, 1) := by decide +kernel
theorem d_X12_order_53 : decode mX12_order.2.2.1 53 = .ok (.goto 63, 3) := by decide +kernel
theorem d_X12_order_38 : decode mX12_order.2.2.1 38 = .ok (.iconst 3, 1) := by decide +kernel
theorem d_X12_order_39 : decode mX12_order.2.2.1 39 = .ok (.goto 77, 3) := by decide +kernel
theorem d_X12_order_24 : decode mX12_order.2.2.1 24 = .ok (.iconst 2, 1) := by decide +kernel
theorem d_X12_order_25 : decode mX12_order.2.2.1 25 = .ok (.goto 91, 3) := by decide +kernel
theorem d_X12_order_10 : decode mX12_order.2.2.1 10 = .ok (.iconst 1, 1) := by decide +kernel
theorem d_X12_order_11 : decode mX12_order.2.2.1 11 = .ok (.goto 105, 3) := by decide +kernel
theorem ok_X12_order : e_m mX12_order 0 := ⟨tblG_in (inT8 (List.mem_of_getElem? (i := 215) rfl)) rfl, plainFor_of_name (by decide), rfl, ini_12, by decide +kernel, by decide⟩
theorem d_X12_statement_4 : decode mX12_statement.2.2.1 4 = .ok (.istore_n 1, 1) := by decide +kernel
theorem d_X12_statement_5 : decode mX12_statement.2.2.1 5 = .ok (.iload_n 1, 1) := by decide +kernel
theorem d_X12_statement_6 : decode mX12_statement.2.2.1 6 = .ok (.iconst (-1), 1) := by decide +kernel
theorem d_X12_statement_7 : decode mX12_statement.2.2.1 7 = .ok (.if_icmp .ne 12, 3) := by decide +kernel
theorem d_X12_statement_10 : decode mX12_statement.2.2.1 10 = .ok (.aload_n 0, 1) := by decide +kernel
theorem d_X12_statement_11 : decode mX12_statement.2.2.1 11 = .ok (.iconst 1, 1) := by decide +kernel
theorem d_X12_statement_12 : decode mX12_statement.2.2.1 12 = .ok (.aload_n 0, 1) := by decide +kernel
theorem d_X12_statement_13 : decode mX12_statement.2.2.1 13 = .ok (.getfield 23, 3) := by decide +kernel
theorem d_X12_statement_16 : decode mX12_statement.2.2.1 16 = .ok (.invokevirtual 389, 3) := by decide +kernel
theorem d_X12_statement_19 : decode mX12_statement.2.2.1 19 = .ok (.aload_n 0, 1) := by decide +kernel
theorem d_X12_statement_20 : decode mX12_statement.2.2.1 20 = .ok (.getfield 36, 3) := by decide +kernel
theorem d_X12_statement_23 : decode mX12_statement.2.2.1 23 = .ok (.ifCond .ne 26, 3) := by decide +kernel
theorem d_X12_statement_26 : decode mX12_statement.2.2.1 26 = .ok (.aload_n 0, 1) := by decide +kernel
theorem d_X12_statement_27 : decode mX12_statement.2.2.1 27 = .ok (.getfield 72, 3) := by decide +kernel
theorem d_X12_statement_30 : decode mX12_statement.2.2.1 30 = .ok (.aload_n 0, 1) := by decide +kernel
theorem d_X12_statement_31 : decode mX12_statement.2.2.1 31 = .ok (.getfield 124, 3) := by decide +kernel
theorem d_X12_statement_34 : decode mX12_statement.2.2.1 34 = .ok (.iaload, 1) := by decide +kernel
theorem d_X12_statement_35 : decode mX12_statement.2.2.1 35 = .ok (.bipush 60, 2) := by decide +kernel
theorem d_X12_statement_37 : decode mX12_statement.2.2.1 37 = .ok (.if_icmp .ne 12, 3) := by decide +kernel
theorem d_X12_statement_40 : decode mX12_statement.2.2.1 40 = .ok (.aload_n 0, 1) := by decide +kernel
theorem d_X12_statement_41 : decode mX12_statement.2.2.1 41 = .ok (.iconst 5, 1) := by decide +kernel
theorem d_X12_statement_42 : decode mX12_statement.2.2.1 42 = .ok (.aload_n 0, 1) := by decide +kernel
theorem d_X12_statement_43 : decode mX12_statement.2.2.1 43 = .ok (.getfield 23, 3) := by decide +kernel
theorem d_X12_statement_46 : decode mX12_statement.2.2.1 46 = .ok (.invokevirtual 389, 3) := by decide +kernel
theorem d_X12_statement_49 : decode mX12_statement.2.2.1 49 = .ok (.aload_n 0, 1) := by decide +kernel
theorem d_X12_statement_50 : decode mX12_statement.2.2.1 50 = .ok (.getfield 36, 3) := by decide +kernel
theorem d_X12_statement_53 : decode mX12_statement.2.2.1 53 = .ok (.ifCond .le 4, 3) := by decide +kernel
theorem d_X12_statement_57 : decode mX12_statement.2.2.1 57 = .ok (.aload_n 0, 1) := by decide +kernel
theorem d_X12_statement_58 : decode mX12_statement.2.2.1 58 = .ok (.iload_n 1, 1) := by decide +kernel
theorem d_X12_statement_59 : decode mX12_statement.2.2.1 59 = .ok (.aload_n 0, 1) := by decide +kernel
theorem d_X12_statement_60 : decode mX12_statement.2.2.1 60 = .ok (.getfield 72, 3) := by decide +kernel
theorem d_X12_statement_63 : decode mX12_statement.2.2.1 63 = .ok (.aload_n 0, 1) := by decide +kernel
theorem d_X12_statement_64 : decode mX12_statement.2.2.1 64 = .ok (.getfield 124, 3) := by decide +kernel
theorem d_X12_statement_67 : decode mX12_statement.2.2.1 67 = .ok (.iaload, 1) := by decide +kernel
theorem d_X12_statement_68 : decode mX12_statement.2.2.1 68 = .ok (.invokevirtual 531, 3) := by decide +kernel
def mX12_spot : MD := (12, yX12_spot, cX12_spot, 4, some .int)
theorem sel_X12_spot : Cond.instanceMethod mX12_spot.2.1 ∈ tblG ∧ Cond.selects mX12_spot.2.1.cls mX12_spot.2.1 mX12_spot.2.1 ∈ tblG := ⟨tblG_in (inT8 (List.mem_of_getElem? (i := 202) rfl)) rfl, tblG_in (inP6 (q := (mX12_spot.2.1, 121)) (List.mem_of_getElem? (i := 11) rfl)) rfl⟩
theorem s_12_531 : e_siteV 12 531 mX12_spot 12 := ⟨tblG_in (inT8 (List.mem_of_getElem? (i := 200) rfl)) rfl, sel_X12_spot.1, sel_X12_spot.2, rfl⟩
theorem d_X12_spot_0 : decode mX12_spot.2.2.1 0 = .ok (.sipush 200, 3) := by decide +kernel
theorem d_X12_spot_3 : decode mX12_spot.2.2.1 3 = .ok (.aload_n 0, 1) := by decide +kernel
theorem d_X12_spot_4 : decode mX12_spot.2.2.1 4 = .ok (.getfield 124, 3) := by decide +kernel
theorem d_X12_spot_7 : decode mX12_spot.2.2.1 7 = .ok (.imul, 1) := by decide +kernel
theorem d_X12_spot_8 : decode mX12_spot.2.2.1 8 = .ok (.aload_n 0, 1) := by decide +kernel
theorem d_X12_spot_9 : decode mX12_spot.2.2.1 9 = .ok (.getfield 94, 3) := by decide +kernel
theorem d_X12_spot_12 : decode mX12_spot.2.2.1 12 = .ok (.aload_n 0, 1) := by decide +kernel
theorem d_X12_spot_13 : decode mX12_spot.2.2.1 13 = .ok (.getfield 124, 3) := by decide +kernel
theorem d_X12_spot_16 : decode mX12_spot.2.2.1 16 = .ok (.iaload, 1) := by decide +kernel
theorem d_X12_spot_17 : decode mX12_spot.2.2.1 17 = .ok (.iadd, 1) := by decide +kernel
theorem d_X12_spot_18 : decode mX12_spot.2.2.1 18 = .ok (.istore_n 3, 1) := by decide +kernel
theorem d_X12_spot_19 : decode mX12_spot.2.2.1 19 = .ok (.aload_n 0, 1) := by decide +kernel
theorem d_X12_spot_20 : decode mX12_spot.2.2.1 20 = .ok (.getfield 97, 3) := by decide +kernel
theorem d_X12_spot_23 : decode mX12_spot.2.2.1 23 = .ok (.iload_n 3, 1) := by decide +kernel
theorem d_X12_spot_24 : decode mX12_spot.2.2.1 24 = .ok (.iload_n 1, 1) := by decide +kernel
theorem d_X12_spot_25 : decode mX12_spot.2.2.1 25 = .ok (.iastore, 1) := by decide +kernel
theorem d_X12_spot_26 : decode mX12_spot.2.2.1 26 = .ok (.aload_n 0, 1) := by decide +kernel
theorem d_X12_spot_27 : decode mX12_spot.2.2.1 27 = .ok (.getfield 100, 3) := by decide +kernel
theorem d_X12_spot_30 : decode mX12_spot.2.2.1 30 = .ok (.iload_n 3, 1) := by decide +kernel
theorem d_X12_spot_31 : decode mX12_spot.2.2.1 31 = .ok (.iload_n 2, 1) := by decide +kernel
theorem d_X12_spot_32 : decode mX12_spot.2.2.1 32 = .ok (.iastore, 1) := by decide +kernel
theorem d_X12_spot_33 : decode mX12_spot.2.2.1 33 = .ok (.aload_n 0, 1) := by decide +kernel
theorem d_X12_spot_34 : decode mX12_spot.2.2.1 34 = .ok (.getfield 103, 3) := by decide +kernel
theorem d_X12_spot_37 : decode mX12_spot.2.2.1 37 = .ok (.iload_n 3, 1) := by decide +kernel
theorem d_X12_spot_38 : decode mX12_spot.2.2.1 38 = .ok (.iconst 0, 1) := by decide +kernel
theorem d_X12_spot_39 : decode mX12_spot.2.2.1 39 = .ok (.iastore, 1) := by decide +kernel
theorem d_X12_spot_40 : decode mX12_spot.2.2.1 40 = .ok (.aload_n 0, 1) := by decide +kernel
theorem d_X12_spot_41 : decode mX12_spot.2.2.1 41 = .ok (.getfield 106, 3) := by decide +kernel
theorem d_X12_spot_44 : decode mX12_spot.2.2.1 44 = .ok (.iload_n 3, 1) := by decide +kernel
theorem d_X12_spot_45 : decode mX12_spot.2.2.1 45 = .ok (.aload_n 0, 1) := by decide +kernel
theorem d_X12_spot_46 : decode mX12_spot.2.2.1 46 = .ok (.getfield 121, 3) := by decide +kernel
theorem d_X12_spot_49 : decode mX12_spot.2.2.1 49 = .ok (.iastore, 1) := by decide +kernel
theorem d_X12_spot_50 : decode mX12_spot.2.2.1 50 = .ok (.aload_n 0, 1) := by decide +kernel
theorem d_X12_spot_51 : decode mX12_spot.2.2.1 51 = .ok (.getfield 109, 3) := by decide +kernel
theorem d_X12_spot_54 : decode mX12_spot.2.2.1 54 = .ok (.iload_n 3, 1) := by decide +kernel
theorem d_X12_spot_55 : decode mX12_spot.2.2.1 55 = .ok (.aload_n 0, 1) := by decide +kernel
theorem d_X12_spot_56 : decode mX12_spot.2.2.1 56 = .ok (.getfield 121, 3) := by decide +kernel
theorem d_X12_spot_59 : decode mX12_spot.2.2.1 59 = .ok (.iastore, 1) := by decide +kernel
theorem d_X12_spot_60 : decode mX12_spot.2.2.1 60 = .ok (.aload_n 0, 1) := by decide +kernel
theorem d_X12_spot_61 : decode mX12_spot.2.2.1 61 = .ok (.getfield 112, 3) := by decide +kernel
theorem d_X12_spot_64 : decode mX12_spot.2.2.1 64 = .ok (.iload_n 3, 1) := by decide +kernel
theorem d_X12_spot_65 : decode mX12_spot.2.2.1 65 = .ok (.iconst 0, 1) := by decide +kernel
theorem d_X12_spot_66 : decode mX12_spot.2.2.1 66 = .ok (.iastore, 1) := by decide +kernel
theorem d_X12_spot_67 : decode mX12_spot.2.2.1 67 = .ok (.aload_n 0, 1) := by decide +kernel
theorem d_X12_spot_68 : decode mX12_spot.2.2.1 68 = .ok (.getfield 94, 3) := by decide +kernel
theorem d_X12_spot_71 : decode mX12_spot.2.2.1 71 = .ok (.aload_n 0, 1) := by decide +kernel
theorem d_X12_spot_72 : decode mX12_spot.2.2.1 72 = .ok (.getfield 124, 3) := by decide +kernel
theorem d_X12_spot_75 : decode mX12_spot.2.2.1 75 = .ok (.dup2, 1) := by decide +kernel
theorem d_X12_spot_76 : decode mX12_spot.2.2.1 76 = .ok (.iaload, 1) := by decide +kernel
theorem d_X12_spot_77 : decode mX12_spot.2.2.1 77 = .ok (.iconst 1, 1) := by decide +kernel
theorem d_X12_spot_78 : decode mX12_spot.2.2.1 78 = .ok (.iadd, 1) := by decide +kernel
theorem d_X12_spot_79 : decode mX12_spot.2.2.1 79 = .ok (.iastore, 1) := by decide +kernel
theorem d_X12_spot_80 : decode mX12_spot.2.2.1 80 = .ok (.iload_n 3, 1) := by decide +kernel
theorem d_X12_spot_81 : decode mX12_spot.2.2.1 81 = .ok (.ireturn, 1) := by decide +kernel
theorem ok_X12_spot : e_m mX12_spot 2 := ⟨tblG_in (inT8 (List.mem_of_getElem? (i := 203) rfl)) rfl, plainFor_of_name (by decide), rfl, ini_12, by decide +kernel, by decide⟩
theorem d_X12_statement_71 : decode mX12_statement.2.2.1 71 = .ok (.istore_n 2, 1) := by decide +kernel
theorem d_X12_statement_72 : decode mX12_statement.2.2.1 72 = .ok (.aload_n 0, 1) := by decide +kernel
theorem d_X12_statement_73 : decode mX12_statement.2.2.1 73 = .ok (.getfield 72, 3) := by decide +kernel
theorem d_X12_statement_76 : decode mX12_statement.2.2.1 76 = .ok (.aload_n 0, 1) := by decide +kernel
theorem d_X12_statement_77 : decode mX12_statement.2.2.1 77 = .ok (.getfield 124, 3) := by decide +kernel
theorem d_X12_statement_80 : decode mX12_statement.2.2.1 80 = .ok (.dup2, 1) := by decide +kernel
theorem d_X12_statement_81 : decode mX12_statement.2.2.1 81 = .ok (.iaload, 1) := by decide +kernel
theorem d_X12_statement_82 : decode mX12_statement.2.2.1 82 = .ok (.iconst 1, 1) := by decide +kernel
theorem d_X12_statement_83 : decode mX12_statement.2.2.1 83 = .ok (.iadd, 1) := by decide +kernel
theorem d_X12_statement_84 : decode mX12_statement.2.2.1 84 = .ok (.iastore, 1) := by decide +kernel
theorem d_X12_statement_85 : decode mX12_statement.2.2.1 85 = .ok (.aload_n 0, 1) := by decide +kernel
theorem d_X12_statement_86 : decode mX12_statement.2.2.1 86 = .ok (.invokevirtual 396, 3) := by decide +kernel
theorem d_X12_statement_89 : decode mX12_statement.2.2.1 89 = .ok (.iload_n 1, 1) := by decide +kernel
theorem d_X12_statement_90 : decode mX12_statement.2.2.1 90 = .ok (.iconst 1, 1) := by decide +kernel
theorem d_X12_statement_91 : decode mX12_statement.2.2.1 91 = .ok (.if_icmp .ne 27, 3) := by decide +kernel
theorem d_X12_statement_94 : decode mX12_statement.2.2.1 94 = .ok (.aload_n 0, 1) := by decide +kernel
theorem d_X12_statement_95 : decode mX12_statement.2.2.1 95 = .ok (.getfield 103, 3) := by decide +kernel
theorem d_X12_statement_98 : decode mX12_statement.2.2.1 98 = .ok (.iload_n 2, 1) := by decide +kernel
theorem d_X12_statement_99 : decode mX12_statement.2.2.1 99 = .ok (.aload_n 0, 1) := by decide +kernel
theorem d_X12_statement_100 : decode mX12_statement.2.2.1 100 = .ok (.iconst 1, 1) := by decide +kernel
theorem d_X12_statement_101 : decode mX12_statement.2.2.1 101 = .ok (.invokevirtual 493, 3) := by decide +kernel
def mX12_asked : MD := (12, yX12_asked, cX12_asked, 3, some .int)
theorem sel_X12_asked : Cond.instanceMethod mX12_asked.2.1 ∈ tblG ∧ Cond.selects mX12_asked.2.1.cls mX12_asked.2.1 mX12_asked.2.1 ∈ tblG := ⟨tblG_in (inT8 (List.mem_of_getElem? (i := 218) rfl)) rfl, tblG_in (inP6 (q := (mX12_asked.2.1, 121)) (List.mem_of_getElem? (i := 15) rfl)) rfl⟩
end
/-! 35.19 -/
section
theorem s_12_493 : e_siteV 12 493 mX12_asked 12 := ⟨tblG_in (inT8 (List.mem_of_getElem? (i := 216) rfl)) rfl, sel_X12_asked.1, sel_X12_asked.2, rfl⟩
theorem d_X12_asked_0 : decode mX12_asked.2.2.1 0 = .ok (.aload_n 0, 1) := by decide +kernel
theorem d_X12_asked_1 : decode mX12_asked.2.2.1 1 = .ok (.getfield 36, 3) := by decide +kernel
theorem d_X12_asked_4 : decode mX12_asked.2.2.1 4 = .ok (.ifCond .le 5, 3) := by decide +kernel
theorem d_X12_asked_9 : decode mX12_asked.2.2.1 9 = .ok (.aload_n 0, 1) := by decide +kernel
theorem d_X12_asked_10 : decode mX12_asked.2.2.1 10 = .ok (.getfield 20, 3) := by decide +kernel
theorem d_X12_asked_13 : decode mX12_asked.2.2.1 13 = .ok (.iconst 1, 1) := by decide +kernel
theorem d_X12_asked_14 : decode mX12_asked.2.2.1 14 = .ok (.if_icmp .ne 14, 3) := by decide +kernel
theorem d_X12_asked_17 : decode mX12_asked.2.2.1 17 = .ok (.aload_n 0, 1) := by decide +kernel
theorem d_X12_asked_18 : decode mX12_asked.2.2.1 18 = .ok (.aload_n 0, 1) := by decide +kernel
theorem d_X12_asked_19 : decode mX12_asked.2.2.1 19 = .ok (.getfield 32, 3) := by decide +kernel
theorem d_X12_asked_22 : decode mX12_asked.2.2.1 22 = .ok (.invokevirtual 453, 3) := by decide +kernel
theorem d_X12_asked_25 : decode mX12_asked.2.2.1 25 = .ok (.ifCond .eq 12, 3) := by decide +kernel
theorem d_X12_asked_7 : decode mX12_asked.2.2.1 7 = .ok (.iconst 0, 1) := by decide +kernel
theorem d_X12_asked_8 : decode mX12_asked.2.2.1 8 = .ok (.ireturn, 1) := by decide +kernel
theorem d_X12_asked_28 : decode mX12_asked.2.2.1 28 = .ok (.aload_n 0, 1) := by decide +kernel
theorem d_X12_asked_29 : decode mX12_asked.2.2.1 29 = .ok (.iconst 1, 1) := by decide +kernel
theorem d_X12_asked_30 : decode mX12_asked.2.2.1 30 = .ok (.aload_n 0, 1) := by decide +kernel
theorem d_X12_asked_31 : decode mX12_asked.2.2.1 31 = .ok (.getfield 23, 3) := by decide +kernel
theorem d_X12_asked_34 : decode mX12_asked.2.2.1 34 = .ok (.invokevirtual 389, 3) := by decide +kernel
theorem d_X12_asked_37 : decode mX12_asked.2.2.1 37 = .ok (.aload_n 0, 1) := by decide +kernel
theorem d_X12_asked_38 : decode mX12_asked.2.2.1 38 = .ok (.getfield 36, 3) := by decide +kernel
theorem d_X12_asked_41 : decode mX12_asked.2.2.1 41 = .ok (.ifCond .le 7, 3) := by decide +kernel
theorem d_X12_asked_48 : decode mX12_asked.2.2.1 48 = .ok (.iload_n 1, 1) := by decide +kernel
theorem d_X12_asked_49 : decode mX12_asked.2.2.1 49 = .ok (.ifCond .ne 14, 3) := by decide +kernel
theorem d_X12_asked_63 : decode mX12_asked.2.2.1 63 = .ok (.aload_n 0, 1) := by decide +kernel
theorem d_X12_asked_64 : decode mX12_asked.2.2.1 64 = .ok (.aload_n 0, 1) := by decide +kernel
theorem d_X12_asked_65 : decode mX12_asked.2.2.1 65 = .ok (.getfield 32, 3) := by decide +kernel
theorem d_X12_asked_68 : decode mX12_asked.2.2.1 68 = .ok (.invokevirtual 464, 3) := by decide +kernel
theorem d_X12_asked_52 : decode mX12_asked.2.2.1 52 = .ok (.aload_n 0, 1) := by decide +kernel
theorem d_X12_asked_53 : decode mX12_asked.2.2.1 53 = .ok (.aload_n 0, 1) := by decide +kernel
theorem d_X12_asked_54 : decode mX12_asked.2.2.1 54 = .ok (.getfield 32, 3) := by decide +kernel
theorem d_X12_asked_57 : decode mX12_asked.2.2.1 57 = .ok (.invokevirtual 457, 3) := by decide +kernel
theorem d_X12_asked_60 : decode mX12_asked.2.2.1 60 = .ok (.goto 11, 3) := by decide +kernel
theorem d_X12_asked_44 : decode mX12_asked.2.2.1 44 = .ok (.iconst 0, 1) := by decide +kernel
theorem d_X12_asked_45 : decode mX12_asked.2.2.1 45 = .ok (.goto 26, 3) := by decide +kernel
theorem d_X12_asked_71 : decode mX12_asked.2.2.1 71 = .ok (.istore_n 2, 1) := by decide +kernel
theorem d_X12_asked_72 : decode mX12_asked.2.2.1 72 = .ok (.aload_n 0, 1) := by decide +kernel
theorem d_X12_asked_73 : decode mX12_asked.2.2.1 73 = .ok (.getfield 36, 3) := by decide +kernel
theorem d_X12_asked_76 : decode mX12_asked.2.2.1 76 = .ok (.ifCond .ne 17, 3) := by decide +kernel
theorem d_X12_asked_79 : decode mX12_asked.2.2.1 79 = .ok (.iload_n 2, 1) := by decide +kernel
theorem d_X12_asked_80 : decode mX12_asked.2.2.1 80 = .ok (.iconst (-1), 1) := by decide +kernel
theorem d_X12_asked_81 : decode mX12_asked.2.2.1 81 = .ok (.if_icmp .ne 12, 3) := by decide +kernel
theorem d_X12_asked_84 : decode mX12_asked.2.2.1 84 = .ok (.aload_n 0, 1) := by decide +kernel
theorem d_X12_asked_85 : decode mX12_asked.2.2.1 85 = .ok (.iconst 3, 1) := by decide +kernel
theorem d_X12_asked_86 : decode mX12_asked.2.2.1 86 = .ok (.aload_n 0, 1) := by decide +kernel
theorem d_X12_asked_87 : decode mX12_asked.2.2.1 87 = .ok (.getfield 23, 3) := by decide +kernel
theorem d_X12_asked_90 : decode mX12_asked.2.2.1 90 = .ok (.invokevirtual 389, 3) := by decide +kernel
theorem d_X12_asked_93 : decode mX12_asked.2.2.1 93 = .ok (.aload_n 0, 1) := by decide +kernel
theorem d_X12_asked_94 : decode mX12_asked.2.2.1 94 = .ok (.getfield 36, 3) := by decide +kernel
theorem d_X12_asked_97 : decode mX12_asked.2.2.1 97 = .ok (.ifCond .ne 7, 3) := by decide +kernel
theorem d_X12_asked_104 : decode mX12_asked.2.2.1 104 = .ok (.iload_n 2, 1) := by decide +kernel
theorem d_X12_asked_105 : decode mX12_asked.2.2.1 105 = .ok (.ireturn, 1) := by decide +kernel
theorem d_X12_asked_100 : decode mX12_asked.2.2.1 100 = .ok (.aload_n 0, 1) := by decide +kernel
theorem d_X12_asked_101 : decode mX12_asked.2.2.1 101 = .ok (.invokevirtual 396, 3) := by decide +kernel
theorem ok_X12_asked : e_m mX12_asked 1 := ⟨tblG_in (inT8 (List.mem_of_getElem? (i := 219) rfl)) rfl, plainFor_of_name (by decide), rfl, ini_12, by decide +kernel, by decide⟩
theorem d_X12_statement_104 : decode mX12_statement.2.2.1 104 = .ok (.iastore, 1) := by decide +kernel
theorem d_X12_statement_105 : decode mX12_statement.2.2.1 105 = .ok (.aload_n 0, 1) := by decide +kernel
theorem d_X12_statement_106 : decode mX12_statement.2.2.1 106 = .ok (.getfield 36, 3) := by decide +kernel
theorem d_X12_statement_109 : decode mX12_statement.2.2.1 109 = .ok (.ifCond .ne 9, 3) := by decide +kernel
theorem d_X12_statement_112 : decode mX12_statement.2.2.1 112 = .ok (.aload_n 0, 1) := by decide +kernel
theorem d_X12_statement_113 : decode mX12_statement.2.2.1 113 = .ok (.bipush 61, 2) := by decide +kernel
theorem d_X12_statement_115 : decode mX12_statement.2.2.1 115 = .ok (.invokevirtual 529, 3) := by decide +kernel
theorem d_X12_statement_56 : decode mX12_statement.2.2.1 56 = .ok (.return_, 1) := by decide +kernel
theorem d_X12_statement_118 : decode mX12_statement.2.2.1 118 = .ok (.iload_n 1, 1) := by decide +kernel
theorem d_X12_statement_119 : decode mX12_statement.2.2.1 119 = .ok (.iconst 2, 1) := by decide +kernel
theorem d_X12_statement_120 : decode mX12_statement.2.2.1 120 = .ok (.if_icmp .eq 13, 3) := by decide +kernel
theorem d_X12_statement_123 : decode mX12_statement.2.2.1 123 = .ok (.iload_n 1, 1) := by decide +kernel
theorem d_X12_statement_124 : decode mX12_statement.2.2.1 124 = .ok (.iconst 3, 1) := by decide +kernel
theorem d_X12_statement_125 : decode mX12_statement.2.2.1 125 = .ok (.if_icmp .eq 8, 3) := by decide +kernel
theorem d_X12_statement_128 : decode mX12_statement.2.2.1 128 = .ok (.iload_n 1, 1) := by decide +kernel
theorem d_X12_statement_129 : decode mX12_statement.2.2.1 129 = .ok (.iconst 4, 1) := by decide +kernel
theorem d_X12_statement_130 : decode mX12_statement.2.2.1 130 = .ok (.if_icmp .ne 14, 3) := by decide +kernel
theorem d_X12_statement_133 : decode mX12_statement.2.2.1 133 = .ok (.aload_n 0, 1) := by decide +kernel
theorem d_X12_statement_134 : decode mX12_statement.2.2.1 134 = .ok (.getfield 103, 3) := by decide +kernel
theorem d_X12_statement_137 : decode mX12_statement.2.2.1 137 = .ok (.iload_n 2, 1) := by decide +kernel
theorem d_X12_statement_138 : decode mX12_statement.2.2.1 138 = .ok (.aload_n 0, 1) := by decide +kernel
theorem d_X12_statement_139 : decode mX12_statement.2.2.1 139 = .ok (.iconst 0, 1) := by decide +kernel
theorem d_X12_statement_140 : decode mX12_statement.2.2.1 140 = .ok (.invokevirtual 493, 3) := by decide +kernel
theorem d_X12_statement_143 : decode mX12_statement.2.2.1 143 = .ok (.iastore, 1) := by decide +kernel
theorem d_X12_statement_144 : decode mX12_statement.2.2.1 144 = .ok (.aload_n 0, 1) := by decide +kernel
theorem d_X12_statement_145 : decode mX12_statement.2.2.1 145 = .ok (.getfield 106, 3) := by decide +kernel
theorem d_X12_statement_148 : decode mX12_statement.2.2.1 148 = .ok (.iload_n 2, 1) := by decide +kernel
theorem d_X12_statement_149 : decode mX12_statement.2.2.1 149 = .ok (.aload_n 0, 1) := by decide +kernel
theorem d_X12_statement_150 : decode mX12_statement.2.2.1 150 = .ok (.getfield 121, 3) := by decide +kernel
theorem d_X12_statement_153 : decode mX12_statement.2.2.1 153 = .ok (.iastore, 1) := by decide +kernel
theorem d_X12_statement_154 : decode mX12_statement.2.2.1 154 = .ok (.iload_n 1, 1) := by decide +kernel
theorem d_X12_statement_155 : decode mX12_statement.2.2.1 155 = .ok (.iconst 3, 1) := by decide +kernel
theorem d_X12_statement_156 : decode mX12_statement.2.2.1 156 = .ok (.if_icmp .eq 23, 3) := by decide +kernel
theorem d_X12_statement_159 : decode mX12_statement.2.2.1 159 = .ok (.iload_n 1, 1) := by decide +kernel
theorem d_X12_statement_160 : decode mX12_statement.2.2.1 160 = .ok (.iconst 4, 1) := by decide +kernel
theorem d_X12_statement_161 : decode mX12_statement.2.2.1 161 = .ok (.if_icmp .eq 18, 3) := by decide +kernel
theorem d_X12_statement_164 : decode mX12_statement.2.2.1 164 = .ok (.aload_n 0, 1) := by decide +kernel
theorem d_X12_statement_165 : decode mX12_statement.2.2.1 165 = .ok (.iload_n 1, 1) := by decide +kernel
theorem d_X12_statement_166 : decode mX12_statement.2.2.1 166 = .ok (.bipush 7, 2) := by decide +kernel
theorem d_X12_statement_168 : decode mX12_statement.2.2.1 168 = .ok (.if_icmp .lt 7, 3) := by decide +kernel
theorem d_X12_statement_175 : decode mX12_statement.2.2.1 175 = .ok (.iconst 0, 1) := by decide +kernel
theorem d_X12_statement_171 : decode mX12_statement.2.2.1 171 = .ok (.iconst 1, 1) := by decide +kernel
theorem d_X12_statement_172 : decode mX12_statement.2.2.1 172 = .ok (.goto 4, 3) := by decide +kernel
theorem d_X12_statement_176 : decode mX12_statement.2.2.1 176 = .ok (.invokevirtual 541, 3) := by decide +kernel
def mX12_reads : MD := (12, yX12_reads, cX12_reads, 3, none)
theorem sel_X12_reads : Cond.instanceMethod mX12_reads.2.1 ∈ tblG ∧ Cond.selects mX12_reads.2.1.cls mX12_reads.2.1 mX12_reads.2.1 ∈ tblG := ⟨tblG_in (inT8 (List.mem_of_getElem? (i := 222) rfl)) rfl, tblG_in (inP7 (q := (mX12_reads.2.1, 121)) (List.mem_of_getElem? (i := 0) rfl)) rfl⟩
theorem s_12_541 : e_siteV 12 541 mX12_reads 12 := ⟨tblG_in (inT8 (List.mem_of_getElem? (i := 220) rfl)) rfl, sel_X12_reads.1, sel_X12_reads.2, rfl⟩
theorem d_X12_reads_0 : decode mX12_reads.2.2.1 0 = .ok (.aload_n 0, 1) := by decide +kernel
theorem d_X12_reads_1 : decode mX12_reads.2.2.1 1 = .ok (.getfield 36, 3) := by decide +kernel
theorem d_X12_reads_4 : decode mX12_reads.2.2.1 4 = .ok (.ifCond .le 4, 3) := by decide +kernel
theorem d_X12_reads_8 : decode mX12_reads.2.2.1 8 = .ok (.aload_n 0, 1) := by decide +kernel
theorem d_X12_reads_9 : decode mX12_reads.2.2.1 9 = .ok (.iconst 0, 1) := by decide +kernel
theorem d_X12_reads_10 : decode mX12_reads.2.2.1 10 = .ok (.putfield 143, 3) := by decide +kernel
theorem d_X12_reads_13 : decode mX12_reads.2.2.1 13 = .ok (.aload_n 0, 1) := by decide +kernel
theorem d_X12_reads_14 : decode mX12_reads.2.2.1 14 = .ok (.iconst 0, 1) := by decide +kernel
theorem d_X12_reads_15 : decode mX12_reads.2.2.1 15 = .ok (.putfield 152, 3) := by decide +kernel
theorem d_X12_reads_18 : decode mX12_reads.2.2.1 18 = .ok (.aload_n 0, 1) := by decide +kernel
theorem d_X12_reads_19 : decode mX12_reads.2.2.1 19 = .ok (.iconst 0, 1) := by decide +kernel
theorem d_X12_reads_20 : decode mX12_reads.2.2.1 20 = .ok (.putfield 155, 3) := by decide +kernel
theorem d_X12_reads_23 : decode mX12_reads.2.2.1 23 = .ok (.aload_n 0, 1) := by decide +kernel
theorem d_X12_reads_24 : decode mX12_reads.2.2.1 24 = .ok (.iload_n 1, 1) := by decide +kernel
theorem d_X12_reads_25 : decode mX12_reads.2.2.1 25 = .ok (.ifCond .eq 7, 3) := by decide +kernel
theorem d_X12_reads_32 : decode mX12_reads.2.2.1 32 = .ok (.iconst 0, 1) := by decide +kernel
theorem d_X12_reads_28 : decode mX12_reads.2.2.1 28 = .ok (.iconst 1, 1) := by decide +kernel
theorem d_X12_reads_29 : decode mX12_reads.2.2.1 29 = .ok (.goto 4, 3) := by decide +kernel
theorem d_X12_reads_7 : decode mX12_reads.2.2.1 7 = .ok (.return_, 1) := by decide +kernel
theorem d_X12_reads_33 : decode mX12_reads.2.2.1 33 = .ok (.invokevirtual 478, 3) := by decide +kernel
def mX12_pushes : MD := (12, yX12_pushes, cX12_pushes, 2, none)
theorem sel_X12_pushes : Cond.instanceMethod mX12_pushes.2.1 ∈ tblG ∧ Cond.selects mX12_pushes.2.1.cls mX12_pushes.2.1 mX12_pushes.2.1 ∈ tblG := ⟨tblG_in (inT8 (List.mem_of_getElem? (i := 226) rfl)) rfl, tblG_in (inP7 (q := (mX12_pushes.2.1, 121)) (List.mem_of_getElem? (i := 1) rfl)) rfl⟩
theorem s_12_478 : e_siteV 12 478 mX12_pushes 12 := ⟨tblG_in (inT8 (List.mem_of_getElem? (i := 224) rfl)) rfl, sel_X12_pushes.1, sel_X12_pushes.2, rfl⟩
theorem d_X12_pushes_0 : decode mX12_pushes.2.2.1 0 = .ok (.aload_n 0, 1) := by decide +kernel
theorem d_X12_pushes_1 : decode mX12_pushes.2.2.1 1 = .ok (.getfield 127, 3) := by decide +kernel
theorem d_X12_pushes_4 : decode mX12_pushes.2.2.1 4 = .ok (.aload_n 0, 1) := by decide +kernel
theorem d_X12_pushes_5 : decode mX12_pushes.2.2.1 5 = .ok (.getfield 143, 3) := by decide +kernel
theorem d_X12_pushes_8 : decode mX12_pushes.2.2.1 8 = .ok (.iload_n 1, 1) := by decide +kernel
theorem d_X12_pushes_9 : decode mX12_pushes.2.2.1 9 = .ok (.iastore, 1) := by decide +kernel
theorem d_X12_pushes_10 : decode mX12_pushes.2.2.1 10 = .ok (.aload_n 0, 1) := by decide +kernel
theorem d_X12_pushes_11 : decode mX12_pushes.2.2.1 11 = .ok (.getfield 130, 3) := by decide +kernel
theorem d_X12_pushes_14 : decode mX12_pushes.2.2.1 14 = .ok (.aload_n 0, 1) := by decide +kernel
theorem d_X12_pushes_15 : decode mX12_pushes.2.2.1 15 = .ok (.getfield 143, 3) := by decide +kernel
theorem d_X12_pushes_18 : decode mX12_pushes.2.2.1 18 = .ok (.iconst 0, 1) := by decide +kernel
theorem d_X12_pushes_19 : decode mX12_pushes.2.2.1 19 = .ok (.iastore, 1) := by decide +kernel
theorem d_X12_pushes_20 : decode mX12_pushes.2.2.1 20 = .ok (.aload_n 0, 1) := by decide +kernel
theorem d_X12_pushes_21 : decode mX12_pushes.2.2.1 21 = .ok (.getfield 133, 3) := by decide +kernel
theorem d_X12_pushes_24 : decode mX12_pushes.2.2.1 24 = .ok (.aload_n 0, 1) := by decide +kernel
theorem d_X12_pushes_25 : decode mX12_pushes.2.2.1 25 = .ok (.getfield 143, 3) := by decide +kernel
theorem d_X12_pushes_28 : decode mX12_pushes.2.2.1 28 = .ok (.iconst 1, 1) := by decide +kernel
theorem d_X12_pushes_29 : decode mX12_pushes.2.2.1 29 = .ok (.bastore, 1) := by decide +kernel
theorem d_X12_pushes_30 : decode mX12_pushes.2.2.1 30 = .ok (.aload_n 0, 1) := by decide +kernel
theorem d_X12_pushes_31 : decode mX12_pushes.2.2.1 31 = .ok (.getfield 140, 3) := by decide +kernel
theorem d_X12_pushes_34 : decode mX12_pushes.2.2.1 34 = .ok (.aload_n 0, 1) := by decide +kernel
theorem d_X12_pushes_35 : decode mX12_pushes.2.2.1 35 = .ok (.getfield 143, 3) := by decide +kernel
theorem d_X12_pushes_38 : decode mX12_pushes.2.2.1 38 = .ok (.aload_n 0, 1) := by decide +kernel
theorem d_X12_pushes_39 : decode mX12_pushes.2.2.1 39 = .ok (.getfield 152, 3) := by decide +kernel
theorem d_X12_pushes_42 : decode mX12_pushes.2.2.1 42 = .ok (.iastore, 1) := by decide +kernel
theorem d_X12_pushes_43 : decode mX12_pushes.2.2.1 43 = .ok (.aload_n 0, 1) := by decide +kernel
theorem d_X12_pushes_44 : decode mX12_pushes.2.2.1 44 = .ok (.dup, 1) := by decide +kernel
theorem d_X12_pushes_45 : decode mX12_pushes.2.2.1 45 = .ok (.getfield 143, 3) := by decide +kernel
theorem d_X12_pushes_48 : decode mX12_pushes.2.2.1 48 = .ok (.iconst 1, 1) := by decide +kernel
theorem d_X12_pushes_49 : decode mX12_pushes.2.2.1 49 = .ok (.iadd, 1) := by decide +kernel
theorem d_X12_pushes_50 : decode mX12_pushes.2.2.1 50 = .ok (.putfield 143, 3) := by decide +kernel
theorem d_X12_pushes_53 : decode mX12_pushes.2.2.1 53 = .ok (.return_, 1) := by decide +kernel
theorem ok_X12_pushes : e_m mX12_pushes 1 := ⟨tblG_in (inT8 (List.mem_of_getElem? (i := 227) rfl)) rfl, plainFor_of_name (by decide), rfl, ini_12, by decide +kernel, by decide⟩
theorem d_X12_reads_36 : decode mX12_reads.2.2.1 36 = .ok (.iconst 1, 1) := by decide +kernel
theorem d_X12_reads_37 : decode mX12_reads.2.2.1 37 = .ok (.istore_n 2, 1) := by decide +kernel
theorem d_X12_reads_38 : decode mX12_reads.2.2.1 38 = .ok (.iload_n 2, 1) := by decide +kernel
theorem d_X12_reads_39 : decode mX12_reads.2.2.1 39 = .ok (.ifCond .eq 46, 3) := by decide +kernel
theorem d_X12_reads_42 : decode mX12_reads.2.2.1 42 = .ok (.aload_n 0, 1) := by decide +kernel
theorem d_X12_reads_43 : decode mX12_reads.2.2.1 43 = .ok (.getfield 155, 3) := by decide +kernel
theorem d_X12_reads_46 : decode mX12_reads.2.2.1 46 = .ok (.ifCond .ne 14, 3) := by decide +kernel
theorem d_X12_reads_49 : decode mX12_reads.2.2.1 49 = .ok (.aload_n 0, 1) := by decide +kernel
theorem d_X12_reads_50 : decode mX12_reads.2.2.1 50 = .ok (.aload_n 0, 1) := by decide +kernel
theorem d_X12_reads_51 : decode mX12_reads.2.2.1 51 = .ok (.invokevirtual 499, 3) := by decide +kernel
def mX12_operand : MD := (12, yX12_operand, cX12_operand, 5, some .boolean)
theorem sel_X12_operand : Cond.instanceMethod mX12_operand.2.1 ∈ tblG ∧ Cond.selects mX12_operand.2.1.cls mX12_operand.2.1 mX12_operand.2.1 ∈ tblG := ⟨tblG_in (inT8 (List.mem_of_getElem? (i := 230) rfl)) rfl, tblG_in (inP7 (q := (mX12_operand.2.1, 121)) (List.mem_of_getElem? (i := 2) rfl)) rfl⟩
theorem s_12_499 : e_siteV 12 499 mX12_operand 12 := ⟨tblG_in (inT8 (List.mem_of_getElem? (i := 228) rfl)) rfl, sel_X12_operand.1, sel_X12_operand.2, rfl⟩
theorem d_X12_operand_0 : decode mX12_operand.2.2.1 0 = .ok (.aload_n 0, 1) := by decide +kernel
theorem d_X12_operand_1 : decode mX12_operand.2.2.1 1 = .ok (.getfield 143, 3) := by decide +kernel
theorem d_X12_operand_4 : decode mX12_operand.2.2.1 4 = .ok (.iconst 1, 1) := by decide +kernel
theorem d_X12_operand_5 : decode mX12_operand.2.2.1 5 = .ok (.isub, 1) := by decide +kernel
theorem d_X12_operand_6 : decode mX12_operand.2.2.1 6 = .ok (.istore_n 1, 1) := by decide +kernel
theorem d_X12_operand_7 : decode mX12_operand.2.2.1 7 = .ok (.aload_n 0, 1) := by decide +kernel
theorem d_X12_operand_8 : decode mX12_operand.2.2.1 8 = .ok (.getfield 127, 3) := by decide +kernel
theorem d_X12_operand_11 : decode mX12_operand.2.2.1 11 = .ok (.iload_n 1, 1) := by decide +kernel
theorem d_X12_operand_12 : decode mX12_operand.2.2.1 12 = .ok (.iaload, 1) := by decide +kernel
theorem d_X12_operand_13 : decode mX12_operand.2.2.1 13 = .ok (.invokestatic 481, 3) := by decide +kernel
def mX12_isTest : MD := (12, yX12_isTest, cX12_isTest, 1, some .boolean)
theorem s_12_481 : e_siteS 12 481 mX12_isTest := ⟨tblG_in (inT8 (List.mem_of_getElem? (i := 232) rfl)) rfl, tblG_in (inT8 (List.mem_of_getElem? (i := 233) rfl)) rfl⟩
theorem d_X12_isTest_0 : decode mX12_isTest.2.2.1 0 = .ok (.iload_n 0, 1) := by decide +kernel
theorem d_X12_isTest_1 : decode mX12_isTest.2.2.1 1 = .ok (.iconst 1, 1) := by decide +kernel
theorem d_X12_isTest_2 : decode mX12_isTest.2.2.1 2 = .ok (.if_icmp .eq 8, 3) := by decide +kernel
theorem d_X12_isTest_10 : decode mX12_isTest.2.2.1 10 = .ok (.iconst 1, 1) := by decide +kernel
theorem d_X12_isTest_11 : decode mX12_isTest.2.2.1 11 = .ok (.goto 4, 3) := by decide +kernel
theorem d_X12_isTest_15 : decode mX12_isTest.2.2.1 15 = .ok (.ireturn, 1) := by decide +kernel
theorem d_X12_isTest_5 : decode mX12_isTest.2.2.1 5 = .ok (.iload_n 0, 1) := by decide +kernel
theorem d_X12_isTest_6 : decode mX12_isTest.2.2.1 6 = .ok (.iconst 5, 1) := by decide +kernel
theorem d_X12_isTest_7 : decode mX12_isTest.2.2.1 7 = .ok (.if_icmp .ne 7, 3) := by decide +kernel
theorem d_X12_isTest_14 : decode mX12_isTest.2.2.1 14 = .ok (.iconst 0, 1) := by decide +kernel
theorem ok_X12_isTest : e_m mX12_isTest 1 := ⟨tblG_in (inT8 (List.mem_of_getElem? (i := 234) rfl)) rfl, plainFor_of_name (by decide), rfl, ini_12, by decide +kernel, by decide⟩
theorem d_X12_operand_16 : decode mX12_operand.2.2.1 16 = .ok (.ifCond .eq 16, 3) := by decide +kernel
theorem d_X12_operand_19 : decode mX12_operand.2.2.1 19 = .ok (.aload_n 0, 1) := by decide +kernel
theorem d_X12_operand_20 : decode mX12_operand.2.2.1 20 = .ok (.getfield 133, 3) := by decide +kernel
theorem d_X12_operand_23 : decode mX12_operand.2.2.1 23 = .ok (.iload_n 1, 1) := by decide +kernel
theorem d_X12_operand_24 : decode mX12_operand.2.2.1 24 = .ok (.baload, 1) := by decide +kernel
theorem d_X12_operand_25 : decode mX12_operand.2.2.1 25 = .ok (.ifCond .eq 7, 3) := by decide +kernel
theorem d_X12_operand_28 : decode mX12_operand.2.2.1 28 = .ok (.iconst 1, 1) := by decide +kernel
theorem d_X12_operand_29 : decode mX12_operand.2.2.1 29 = .ok (.goto 4, 3) := by decide +kernel
theorem d_X12_operand_32 : decode mX12_operand.2.2.1 32 = .ok (.iconst 0, 1) := by decide +kernel
theorem d_X12_operand_33 : decode mX12_operand.2.2.1 33 = .ok (.istore_n 2, 1) := by decide +kernel
theorem d_X12_operand_34 : decode mX12_operand.2.2.1 34 = .ok (.iload_n 2, 1) := by decide +kernel
theorem d_X12_operand_35 : decode mX12_operand.2.2.1 35 = .ok (.ifCond .eq 25, 3) := by decide +kernel
theorem d_X12_operand_38 : decode mX12_operand.2.2.1 38 = .ok (.aload_n 0, 1) := by decide +kernel
theorem d_X12_operand_39 : decode mX12_operand.2.2.1 39 = .ok (.ldc2_w 441, 3) := by decide +kernel
theorem d_X12_operand_42 : decode mX12_operand.2.2.1 42 = .ok (.invokevirtual 484, 3) := by decide +kernel
theorem d_X12_operand_45 : decode mX12_operand.2.2.1 45 = .ok (.ifCond .eq 15, 3) := by decide +kernel
theorem d_X12_operand_48 : decode mX12_operand.2.2.1 48 = .ok (.aload_n 0, 1) := by decide +kernel
theorem d_X12_operand_49 : decode mX12_operand.2.2.1 49 = .ok (.bipush 18, 2) := by decide +kernel
theorem d_X12_operand_51 : decode mX12_operand.2.2.1 51 = .ok (.invokevirtual 487, 3) := by decide +kernel
def mX12_holdsBack : MD := (12, yX12_holdsBack, cX12_holdsBack, 2, none)
theorem sel_X12_holdsBack : Cond.instanceMethod mX12_holdsBack.2.1 ∈ tblG ∧ Cond.selects mX12_holdsBack.2.1.cls mX12_holdsBack.2.1 mX12_holdsBack.2.1 ∈ tblG := ⟨tblG_in (inT8 (List.mem_of_getElem? (i := 237) rfl)) rfl, tblG_in (inP7 (q := (mX12_holdsBack.2.1, 121)) (List.mem_of_getElem? (i := 3) rfl)) rfl⟩
theorem s_12_487 : e_siteV 12 487 mX12_holdsBack 12 := ⟨tblG_in (inT8 (List.mem_of_getElem? (i := 235) rfl)) rfl, sel_X12_holdsBack.1, sel_X12_holdsBack.2, rfl⟩
theorem d_X12_holdsBack_0 : decode mX12_holdsBack.2.2.1 0 = .ok (.aload_n 0, 1) := by decide +kernel
theorem d_X12_holdsBack_1 : decode mX12_holdsBack.2.2.1 1 = .ok (.getfield 149, 3) := by decide +kernel
theorem d_X12_holdsBack_4 : decode mX12_holdsBack.2.2.1 4 = .ok (.aload_n 0, 1) := by decide +kernel
theorem d_X12_holdsBack_5 : decode mX12_holdsBack.2.2.1 5 = .ok (.getfield 152, 3) := by decide +kernel
theorem d_X12_holdsBack_8 : decode mX12_holdsBack.2.2.1 8 = .ok (.iload_n 1, 1) := by decide +kernel
theorem d_X12_holdsBack_9 : decode mX12_holdsBack.2.2.1 9 = .ok (.iastore, 1) := by decide +kernel
theorem d_X12_holdsBack_10 : decode mX12_holdsBack.2.2.1 10 = .ok (.aload_n 0, 1) := by decide +kernel
theorem d_X12_holdsBack_11 : decode mX12_holdsBack.2.2.1 11 = .ok (.dup, 1) := by decide +kernel
theorem d_X12_holdsBack_12 : decode mX12_holdsBack.2.2.1 12 = .ok (.getfield 152, 3) := by decide +kernel
theorem d_X12_holdsBack_15 : decode mX12_holdsBack.2.2.1 15 = .ok (.iconst 1, 1) := by decide +kernel
theorem d_X12_holdsBack_16 : decode mX12_holdsBack.2.2.1 16 = .ok (.iadd, 1) := by decide +kernel
theorem d_X12_holdsBack_17 : decode mX12_holdsBack.2.2.1 17 = .ok (.putfield 152, 3) := by decide +kernel
theorem d_X12_holdsBack_20 : decode mX12_holdsBack.2.2.1 20 = .ok (.return_, 1) := by decide +kernel
end
/-! 35.20 -/
section
theorem ok_X12_holdsBack : e_m mX12_holdsBack 1 := ⟨tblG_in (inT8 (List.mem_of_getElem? (i := 238) rfl)) rfl, plainFor_of_name (by decide), rfl, ini_12, by decide +kernel, by decide⟩
theorem d_X12_operand_54 : decode mX12_operand.2.2.1 54 = .ok (.aload_n 0, 1) := by decide +kernel
theorem d_X12_operand_55 : decode mX12_operand.2.2.1 55 = .ok (.invokevirtual 396, 3) := by decide +kernel
theorem d_X12_operand_58 : decode mX12_operand.2.2.1 58 = .ok (.iconst 0, 1) := by decide +kernel
theorem d_X12_operand_59 : decode mX12_operand.2.2.1 59 = .ok (.ireturn, 1) := by decide +kernel
theorem d_X12_operand_60 : decode mX12_operand.2.2.1 60 = .ok (.aload_n 0, 1) := by decide +kernel
theorem d_X12_operand_61 : decode mX12_operand.2.2.1 61 = .ok (.getfield 133, 3) := by decide +kernel
theorem d_X12_operand_64 : decode mX12_operand.2.2.1 64 = .ok (.iload_n 1, 1) := by decide +kernel
theorem d_X12_operand_65 : decode mX12_operand.2.2.1 65 = .ok (.iconst 0, 1) := by decide +kernel
theorem d_X12_operand_66 : decode mX12_operand.2.2.1 66 = .ok (.bastore, 1) := by decide +kernel
theorem d_X12_operand_67 : decode mX12_operand.2.2.1 67 = .ok (.iload_n 2, 1) := by decide +kernel
theorem d_X12_operand_68 : decode mX12_operand.2.2.1 68 = .ok (.ifCond .eq 19, 3) := by decide +kernel
theorem d_X12_operand_71 : decode mX12_operand.2.2.1 71 = .ok (.aload_n 0, 1) := by decide +kernel
theorem d_X12_operand_72 : decode mX12_operand.2.2.1 72 = .ok (.bipush 91, 2) := by decide +kernel
theorem d_X12_operand_74 : decode mX12_operand.2.2.1 74 = .ok (.invokevirtual 393, 3) := by decide +kernel
theorem d_X12_operand_77 : decode mX12_operand.2.2.1 77 = .ok (.ifCond .eq 10, 3) := by decide +kernel
theorem d_X12_operand_80 : decode mX12_operand.2.2.1 80 = .ok (.aload_n 0, 1) := by decide +kernel
theorem d_X12_operand_81 : decode mX12_operand.2.2.1 81 = .ok (.iconst 5, 1) := by decide +kernel
theorem d_X12_operand_82 : decode mX12_operand.2.2.1 82 = .ok (.invokevirtual 490, 3) := by decide +kernel
def mX12_opens : MD := (12, yX12_opens, cX12_opens, 2, none)
theorem sel_X12_opens : Cond.instanceMethod mX12_opens.2.1 ∈ tblG ∧ Cond.selects mX12_opens.2.1.cls mX12_opens.2.1 mX12_opens.2.1 ∈ tblG := ⟨tblG_in (inT9 (List.mem_of_getElem? (i := 1) rfl)) rfl, tblG_in (inP7 (q := (mX12_opens.2.1, 121)) (List.mem_of_getElem? (i := 4) rfl)) rfl⟩
theorem s_12_490 : e_siteV 12 490 mX12_opens 12 := ⟨tblG_in (inT8 (List.mem_of_getElem? (i := 239) rfl)) rfl, sel_X12_opens.1, sel_X12_opens.2, rfl⟩
theorem d_X12_opens_0 : decode mX12_opens.2.2.1 0 = .ok (.aload_n 0, 1) := by decide +kernel
theorem d_X12_opens_1 : decode mX12_opens.2.2.1 1 = .ok (.getfield 146, 3) := by decide +kernel
theorem d_X12_opens_4 : decode mX12_opens.2.2.1 4 = .ok (.bipush 8, 2) := by decide +kernel
theorem d_X12_opens_6 : decode mX12_opens.2.2.1 6 = .ok (.if_icmp .ne 12, 3) := by decide +kernel
theorem d_X12_opens_9 : decode mX12_opens.2.2.1 9 = .ok (.aload_n 0, 1) := by decide +kernel
theorem d_X12_opens_10 : decode mX12_opens.2.2.1 10 = .ok (.iconst 5, 1) := by decide +kernel
theorem d_X12_opens_11 : decode mX12_opens.2.2.1 11 = .ok (.aload_n 0, 1) := by decide +kernel
theorem d_X12_opens_12 : decode mX12_opens.2.2.1 12 = .ok (.getfield 23, 3) := by decide +kernel
theorem d_X12_opens_15 : decode mX12_opens.2.2.1 15 = .ok (.invokevirtual 389, 3) := by decide +kernel
theorem d_X12_opens_18 : decode mX12_opens.2.2.1 18 = .ok (.aload_n 0, 1) := by decide +kernel
theorem d_X12_opens_19 : decode mX12_opens.2.2.1 19 = .ok (.getfield 36, 3) := by decide +kernel
theorem d_X12_opens_22 : decode mX12_opens.2.2.1 22 = .ok (.ifCond .le 4, 3) := by decide +kernel
theorem d_X12_opens_26 : decode mX12_opens.2.2.1 26 = .ok (.aload_n 0, 1) := by decide +kernel
theorem d_X12_opens_27 : decode mX12_opens.2.2.1 27 = .ok (.dup, 1) := by decide +kernel
theorem d_X12_opens_28 : decode mX12_opens.2.2.1 28 = .ok (.getfield 146, 3) := by decide +kernel
theorem d_X12_opens_31 : decode mX12_opens.2.2.1 31 = .ok (.iconst 1, 1) := by decide +kernel
theorem d_X12_opens_32 : decode mX12_opens.2.2.1 32 = .ok (.iadd, 1) := by decide +kernel
theorem d_X12_opens_33 : decode mX12_opens.2.2.1 33 = .ok (.putfield 146, 3) := by decide +kernel
theorem d_X12_opens_36 : decode mX12_opens.2.2.1 36 = .ok (.aload_n 0, 1) := by decide +kernel
theorem d_X12_opens_37 : decode mX12_opens.2.2.1 37 = .ok (.invokevirtual 396, 3) := by decide +kernel
theorem d_X12_opens_40 : decode mX12_opens.2.2.1 40 = .ok (.aload_n 0, 1) := by decide +kernel
theorem d_X12_opens_41 : decode mX12_opens.2.2.1 41 = .ok (.iload_n 1, 1) := by decide +kernel
theorem d_X12_opens_42 : decode mX12_opens.2.2.1 42 = .ok (.invokevirtual 478, 3) := by decide +kernel
theorem d_X12_opens_45 : decode mX12_opens.2.2.1 45 = .ok (.return_, 1) := by decide +kernel
theorem d_X12_opens_25 : decode mX12_opens.2.2.1 25 = .ok (.return_, 1) := by decide +kernel
theorem ok_X12_opens : e_m mX12_opens 1 := ⟨tblG_in (inT9 (List.mem_of_getElem? (i := 2) rfl)) rfl, plainFor_of_name (by decide), rfl, ini_12, by decide +kernel, by decide⟩
theorem d_X12_operand_85 : decode mX12_operand.2.2.1 85 = .ok (.iconst 0, 1) := by decide +kernel
theorem d_X12_operand_86 : decode mX12_operand.2.2.1 86 = .ok (.ireturn, 1) := by decide +kernel
theorem d_X12_operand_87 : decode mX12_operand.2.2.1 87 = .ok (.iload_n 2, 1) := by decide +kernel
theorem d_X12_operand_88 : decode mX12_operand.2.2.1 88 = .ok (.ifCond .eq 32, 3) := by decide +kernel
theorem d_X12_operand_91 : decode mX12_operand.2.2.1 91 = .ok (.aload_n 0, 1) := by decide +kernel
theorem d_X12_operand_92 : decode mX12_operand.2.2.1 92 = .ok (.ldc2_w 443, 3) := by decide +kernel
theorem d_X12_operand_95 : decode mX12_operand.2.2.1 95 = .ok (.invokevirtual 484, 3) := by decide +kernel
theorem d_X12_operand_98 : decode mX12_operand.2.2.1 98 = .ok (.ifCond .eq 22, 3) := by decide +kernel
theorem d_X12_operand_101 : decode mX12_operand.2.2.1 101 = .ok (.aload_n 0, 1) := by decide +kernel
theorem d_X12_operand_102 : decode mX12_operand.2.2.1 102 = .ok (.iconst 5, 1) := by decide +kernel
theorem d_X12_operand_103 : decode mX12_operand.2.2.1 103 = .ok (.iconst 0, 1) := by decide +kernel
theorem d_X12_operand_104 : decode mX12_operand.2.2.1 104 = .ok (.invokevirtual 475, 3) := by decide +kernel
def mX12_add : MD := (12, yX12_add, cX12_add, 3, none)
theorem sel_X12_add : Cond.instanceMethod mX12_add.2.1 ∈ tblG ∧ Cond.selects mX12_add.2.1.cls mX12_add.2.1 mX12_add.2.1 ∈ tblG := ⟨tblG_in (inT9 (List.mem_of_getElem? (i := 5) rfl)) rfl, tblG_in (inP7 (q := (mX12_add.2.1, 121)) (List.mem_of_getElem? (i := 5) rfl)) rfl⟩
theorem s_12_475 : e_siteV 12 475 mX12_add 12 := ⟨tblG_in (inT9 (List.mem_of_getElem? (i := 3) rfl)) rfl, sel_X12_add.1, sel_X12_add.2, rfl⟩
theorem d_X12_add_0 : decode mX12_add.2.2.1 0 = .ok (.aload_n 0, 1) := by decide +kernel
theorem d_X12_add_1 : decode mX12_add.2.2.1 1 = .ok (.getfield 115, 3) := by decide +kernel
theorem d_X12_add_4 : decode mX12_add.2.2.1 4 = .ok (.sipush 900, 3) := by decide +kernel
theorem d_X12_add_7 : decode mX12_add.2.2.1 7 = .ok (.aload_n 0, 1) := by decide +kernel
theorem d_X12_add_8 : decode mX12_add.2.2.1 8 = .ok (.getfield 124, 3) := by decide +kernel
theorem d_X12_add_11 : decode mX12_add.2.2.1 11 = .ok (.imul, 1) := by decide +kernel
theorem d_X12_add_12 : decode mX12_add.2.2.1 12 = .ok (.aload_n 0, 1) := by decide +kernel
theorem d_X12_add_13 : decode mX12_add.2.2.1 13 = .ok (.getfield 121, 3) := by decide +kernel
theorem d_X12_add_16 : decode mX12_add.2.2.1 16 = .ok (.iadd, 1) := by decide +kernel
theorem d_X12_add_17 : decode mX12_add.2.2.1 17 = .ok (.iload_n 1, 1) := by decide +kernel
theorem d_X12_add_18 : decode mX12_add.2.2.1 18 = .ok (.iastore, 1) := by decide +kernel
theorem d_X12_add_19 : decode mX12_add.2.2.1 19 = .ok (.aload_n 0, 1) := by decide +kernel
theorem d_X12_add_20 : decode mX12_add.2.2.1 20 = .ok (.getfield 118, 3) := by decide +kernel
theorem d_X12_add_23 : decode mX12_add.2.2.1 23 = .ok (.sipush 900, 3) := by decide +kernel
theorem d_X12_add_26 : decode mX12_add.2.2.1 26 = .ok (.aload_n 0, 1) := by decide +kernel
theorem d_X12_add_27 : decode mX12_add.2.2.1 27 = .ok (.getfield 124, 3) := by decide +kernel
theorem d_X12_add_30 : decode mX12_add.2.2.1 30 = .ok (.imul, 1) := by decide +kernel
theorem d_X12_add_31 : decode mX12_add.2.2.1 31 = .ok (.aload_n 0, 1) := by decide +kernel
theorem d_X12_add_32 : decode mX12_add.2.2.1 32 = .ok (.getfield 121, 3) := by decide +kernel
theorem d_X12_add_35 : decode mX12_add.2.2.1 35 = .ok (.iadd, 1) := by decide +kernel
theorem d_X12_add_36 : decode mX12_add.2.2.1 36 = .ok (.iload_n 2, 1) := by decide +kernel
theorem d_X12_add_37 : decode mX12_add.2.2.1 37 = .ok (.iastore, 1) := by decide +kernel
theorem d_X12_add_38 : decode mX12_add.2.2.1 38 = .ok (.aload_n 0, 1) := by decide +kernel
theorem d_X12_add_39 : decode mX12_add.2.2.1 39 = .ok (.dup, 1) := by decide +kernel
theorem d_X12_add_40 : decode mX12_add.2.2.1 40 = .ok (.getfield 121, 3) := by decide +kernel
theorem d_X12_add_43 : decode mX12_add.2.2.1 43 = .ok (.iconst 1, 1) := by decide +kernel
theorem d_X12_add_44 : decode mX12_add.2.2.1 44 = .ok (.iadd, 1) := by decide +kernel
theorem d_X12_add_45 : decode mX12_add.2.2.1 45 = .ok (.putfield 121, 3) := by decide +kernel
theorem d_X12_add_48 : decode mX12_add.2.2.1 48 = .ok (.return_, 1) := by decide +kernel
theorem ok_X12_add : e_m mX12_add 2 := ⟨tblG_in (inT9 (List.mem_of_getElem? (i := 6) rfl)) rfl, plainFor_of_name (by decide), rfl, ini_12, by decide +kernel, by decide⟩
theorem d_X12_operand_107 : decode mX12_operand.2.2.1 107 = .ok (.aload_n 0, 1) := by decide +kernel
theorem d_X12_operand_108 : decode mX12_operand.2.2.1 108 = .ok (.getfield 130, 3) := by decide +kernel
theorem d_X12_operand_111 : decode mX12_operand.2.2.1 111 = .ok (.iload_n 1, 1) := by decide +kernel
theorem d_X12_operand_112 : decode mX12_operand.2.2.1 112 = .ok (.iconst 2, 1) := by decide +kernel
theorem d_X12_operand_113 : decode mX12_operand.2.2.1 113 = .ok (.iastore, 1) := by decide +kernel
theorem d_X12_operand_114 : decode mX12_operand.2.2.1 114 = .ok (.aload_n 0, 1) := by decide +kernel
theorem d_X12_operand_115 : decode mX12_operand.2.2.1 115 = .ok (.invokevirtual 396, 3) := by decide +kernel
theorem d_X12_operand_118 : decode mX12_operand.2.2.1 118 = .ok (.iconst 1, 1) := by decide +kernel
theorem d_X12_operand_119 : decode mX12_operand.2.2.1 119 = .ok (.ireturn, 1) := by decide +kernel
theorem d_X12_operand_120 : decode mX12_operand.2.2.1 120 = .ok (.iload_n 2, 1) := by decide +kernel
theorem d_X12_operand_121 : decode mX12_operand.2.2.1 121 = .ok (.ifCond .eq 45, 3) := by decide +kernel
theorem d_X12_operand_124 : decode mX12_operand.2.2.1 124 = .ok (.aload_n 0, 1) := by decide +kernel
theorem d_X12_operand_125 : decode mX12_operand.2.2.1 125 = .ok (.ldc2_w 445, 3) := by decide +kernel
theorem d_X12_operand_128 : decode mX12_operand.2.2.1 128 = .ok (.invokevirtual 484, 3) := by decide +kernel
theorem d_X12_operand_131 : decode mX12_operand.2.2.1 131 = .ok (.ifCond .eq 35, 3) := by decide +kernel
theorem d_X12_operand_134 : decode mX12_operand.2.2.1 134 = .ok (.aload_n 0, 1) := by decide +kernel
theorem d_X12_operand_135 : decode mX12_operand.2.2.1 135 = .ok (.invokevirtual 396, 3) := by decide +kernel
theorem d_X12_operand_138 : decode mX12_operand.2.2.1 138 = .ok (.aload_n 0, 1) := by decide +kernel
theorem d_X12_operand_139 : decode mX12_operand.2.2.1 139 = .ok (.iconst 0, 1) := by decide +kernel
theorem d_X12_operand_140 : decode mX12_operand.2.2.1 140 = .ok (.invokevirtual 493, 3) := by decide +kernel
theorem d_X12_operand_143 : decode mX12_operand.2.2.1 143 = .ok (.istore_n 3, 1) := by decide +kernel
theorem d_X12_operand_144 : decode mX12_operand.2.2.1 144 = .ok (.aload_n 0, 1) := by decide +kernel
theorem d_X12_operand_145 : decode mX12_operand.2.2.1 145 = .ok (.getfield 36, 3) := by decide +kernel
theorem d_X12_operand_148 : decode mX12_operand.2.2.1 148 = .ok (.ifCond .ne 9, 3) := by decide +kernel
theorem d_X12_operand_151 : decode mX12_operand.2.2.1 151 = .ok (.aload_n 0, 1) := by decide +kernel
theorem d_X12_operand_152 : decode mX12_operand.2.2.1 152 = .ok (.iconst 4, 1) := by decide +kernel
theorem d_X12_operand_153 : decode mX12_operand.2.2.1 153 = .ok (.iload_n 3, 1) := by decide +kernel
theorem d_X12_operand_154 : decode mX12_operand.2.2.1 154 = .ok (.invokevirtual 475, 3) := by decide +kernel
theorem d_X12_operand_166 : decode mX12_operand.2.2.1 166 = .ok (.aload_n 0, 1) := by decide +kernel
theorem d_X12_operand_167 : decode mX12_operand.2.2.1 167 = .ok (.bipush 40, 2) := by decide +kernel
theorem d_X12_operand_169 : decode mX12_operand.2.2.1 169 = .ok (.invokevirtual 393, 3) := by decide +kernel
theorem d_X12_operand_172 : decode mX12_operand.2.2.1 172 = .ok (.ifCond .eq 10, 3) := by decide +kernel
theorem d_X12_operand_182 : decode mX12_operand.2.2.1 182 = .ok (.aload_n 0, 1) := by decide +kernel
theorem d_X12_operand_183 : decode mX12_operand.2.2.1 183 = .ok (.ldc2_w 449, 3) := by decide +kernel
theorem d_X12_operand_186 : decode mX12_operand.2.2.1 186 = .ok (.invokevirtual 484, 3) := by decide +kernel
theorem d_X12_operand_189 : decode mX12_operand.2.2.1 189 = .ok (.ifCond .ne 13, 3) := by decide +kernel
theorem d_X12_operand_192 : decode mX12_operand.2.2.1 192 = .ok (.aload_n 0, 1) := by decide +kernel
theorem d_X12_operand_193 : decode mX12_operand.2.2.1 193 = .ok (.ldc2_w 451, 3) := by decide +kernel
theorem d_X12_operand_196 : decode mX12_operand.2.2.1 196 = .ok (.invokevirtual 484, 3) := by decide +kernel
theorem d_X12_operand_199 : decode mX12_operand.2.2.1 199 = .ok (.ifCond .eq 69, 3) := by decide +kernel
theorem d_X12_operand_268 : decode mX12_operand.2.2.1 268 = .ok (.aload_n 0, 1) := by decide +kernel
theorem d_X12_operand_269 : decode mX12_operand.2.2.1 269 = .ok (.getfield 20, 3) := by decide +kernel
theorem d_X12_operand_272 : decode mX12_operand.2.2.1 272 = .ok (.iconst 2, 1) := by decide +kernel
theorem d_X12_operand_273 : decode mX12_operand.2.2.1 273 = .ok (.if_icmp .ne 7, 3) := by decide +kernel
theorem d_X12_operand_280 : decode mX12_operand.2.2.1 280 = .ok (.aload_n 0, 1) := by decide +kernel
theorem d_X12_operand_281 : decode mX12_operand.2.2.1 281 = .ok (.ldc2_w 447, 3) := by decide +kernel
theorem d_X12_operand_284 : decode mX12_operand.2.2.1 284 = .ok (.invokevirtual 484, 3) := by decide +kernel
theorem d_X12_operand_287 : decode mX12_operand.2.2.1 287 = .ok (.ifCond .eq 7, 3) := by decide +kernel
theorem d_X12_operand_294 : decode mX12_operand.2.2.1 294 = .ok (.iconst 1, 1) := by decide +kernel
theorem d_X12_operand_290 : decode mX12_operand.2.2.1 290 = .ok (.iconst 3, 1) := by decide +kernel
theorem d_X12_operand_291 : decode mX12_operand.2.2.1 291 = .ok (.goto 4, 3) := by decide +kernel
theorem d_X12_operand_276 : decode mX12_operand.2.2.1 276 = .ok (.iconst 0, 1) := by decide +kernel
theorem d_X12_operand_277 : decode mX12_operand.2.2.1 277 = .ok (.goto 18, 3) := by decide +kernel
theorem d_X12_operand_175 : decode mX12_operand.2.2.1 175 = .ok (.aload_n 0, 1) := by decide +kernel
theorem d_X12_operand_176 : decode mX12_operand.2.2.1 176 = .ok (.iconst 2, 1) := by decide +kernel
theorem d_X12_operand_177 : decode mX12_operand.2.2.1 177 = .ok (.invokevirtual 490, 3) := by decide +kernel
theorem d_X12_operand_180 : decode mX12_operand.2.2.1 180 = .ok (.iconst 0, 1) := by decide +kernel
theorem d_X12_operand_181 : decode mX12_operand.2.2.1 181 = .ok (.ireturn, 1) := by decide +kernel
theorem d_X12_operand_295 : decode mX12_operand.2.2.1 295 = .ok (.istore_n 3, 1) := by decide +kernel
theorem d_X12_operand_296 : decode mX12_operand.2.2.1 296 = .ok (.aload_n 0, 1) := by decide +kernel
theorem d_X12_operand_297 : decode mX12_operand.2.2.1 297 = .ok (.getfield 29, 3) := by decide +kernel
theorem d_X12_operand_300 : decode mX12_operand.2.2.1 300 = .ok (.istore 4, 2) := by decide +kernel
theorem d_X12_operand_302 : decode mX12_operand.2.2.1 302 = .ok (.iload_n 3, 1) := by decide +kernel
theorem d_X12_operand_303 : decode mX12_operand.2.2.1 303 = .ok (.iconst 1, 1) := by decide +kernel
theorem d_X12_operand_304 : decode mX12_operand.2.2.1 304 = .ok (.if_icmp .ne 92, 3) := by decide +kernel
theorem d_X12_operand_307 : decode mX12_operand.2.2.1 307 = .ok (.aload_n 0, 1) := by decide +kernel
theorem d_X12_operand_308 : decode mX12_operand.2.2.1 308 = .ok (.getfield 20, 3) := by decide +kernel
theorem d_X12_operand_311 : decode mX12_operand.2.2.1 311 = .ok (.iconst 1, 1) := by decide +kernel
theorem d_X12_operand_312 : decode mX12_operand.2.2.1 312 = .ok (.if_icmp .ne 14, 3) := by decide +kernel
theorem d_X12_operand_315 : decode mX12_operand.2.2.1 315 = .ok (.aload_n 0, 1) := by decide +kernel
theorem d_X12_operand_316 : decode mX12_operand.2.2.1 316 = .ok (.aload_n 0, 1) := by decide +kernel
theorem d_X12_operand_317 : decode mX12_operand.2.2.1 317 = .ok (.getfield 32, 3) := by decide +kernel
theorem d_X12_operand_320 : decode mX12_operand.2.2.1 320 = .ok (.invokevirtual 453, 3) := by decide +kernel
theorem d_X12_operand_323 : decode mX12_operand.2.2.1 323 = .ok (.ifCond .eq 12, 3) := by decide +kernel
theorem d_X12_operand_326 : decode mX12_operand.2.2.1 326 = .ok (.aload_n 0, 1) := by decide +kernel
theorem d_X12_operand_327 : decode mX12_operand.2.2.1 327 = .ok (.iconst 1, 1) := by decide +kernel
theorem d_X12_operand_328 : decode mX12_operand.2.2.1 328 = .ok (.aload_n 0, 1) := by decide +kernel
theorem d_X12_operand_329 : decode mX12_operand.2.2.1 329 = .ok (.getfield 23, 3) := by decide +kernel
theorem d_X12_operand_332 : decode mX12_operand.2.2.1 332 = .ok (.invokevirtual 389, 3) := by decide +kernel
theorem d_X12_operand_335 : decode mX12_operand.2.2.1 335 = .ok (.aload_n 0, 1) := by decide +kernel
theorem d_X12_operand_336 : decode mX12_operand.2.2.1 336 = .ok (.getfield 36, 3) := by decide +kernel
theorem d_X12_operand_339 : decode mX12_operand.2.2.1 339 = .ok (.ifCond .le 7, 3) := by decide +kernel
theorem d_X12_operand_346 : decode mX12_operand.2.2.1 346 = .ok (.aload_n 0, 1) := by decide +kernel
theorem d_X12_operand_347 : decode mX12_operand.2.2.1 347 = .ok (.aload_n 0, 1) := by decide +kernel
theorem d_X12_operand_348 : decode mX12_operand.2.2.1 348 = .ok (.getfield 32, 3) := by decide +kernel
theorem d_X12_operand_351 : decode mX12_operand.2.2.1 351 = .ok (.invokevirtual 461, 3) := by decide +kernel
theorem d_X12_operand_342 : decode mX12_operand.2.2.1 342 = .ok (.iconst 0, 1) := by decide +kernel
theorem d_X12_operand_343 : decode mX12_operand.2.2.1 343 = .ok (.goto 11, 3) := by decide +kernel
theorem d_X12_operand_354 : decode mX12_operand.2.2.1 354 = .ok (.istore 4, 2) := by decide +kernel
theorem d_X12_operand_356 : decode mX12_operand.2.2.1 356 = .ok (.iload 4, 2) := by decide +kernel
theorem d_X12_operand_358 : decode mX12_operand.2.2.1 358 = .ok (.iconst (-1), 1) := by decide +kernel
theorem d_X12_operand_359 : decode mX12_operand.2.2.1 359 = .ok (.if_icmp .ne 15, 3) := by decide +kernel
theorem d_X12_operand_362 : decode mX12_operand.2.2.1 362 = .ok (.iconst 2, 1) := by decide +kernel
theorem d_X12_operand_363 : decode mX12_operand.2.2.1 363 = .ok (.istore_n 3, 1) := by decide +kernel
theorem d_X12_operand_364 : decode mX12_operand.2.2.1 364 = .ok (.aload_n 0, 1) := by decide +kernel
theorem d_X12_operand_365 : decode mX12_operand.2.2.1 365 = .ok (.aload_n 0, 1) := by decide +kernel
theorem d_X12_operand_366 : decode mX12_operand.2.2.1 366 = .ok (.getfield 32, 3) := by decide +kernel
theorem d_X12_operand_369 : decode mX12_operand.2.2.1 369 = .ok (.invokevirtual 464, 3) := by decide +kernel
theorem d_X12_operand_372 : decode mX12_operand.2.2.1 372 = .ok (.istore 4, 2) := by decide +kernel
theorem d_X12_operand_374 : decode mX12_operand.2.2.1 374 = .ok (.aload_n 0, 1) := by decide +kernel
theorem d_X12_operand_375 : decode mX12_operand.2.2.1 375 = .ok (.getfield 36, 3) := by decide +kernel
theorem d_X12_operand_378 : decode mX12_operand.2.2.1 378 = .ok (.ifCond .ne 18, 3) := by decide +kernel
theorem d_X12_operand_381 : decode mX12_operand.2.2.1 381 = .ok (.iload 4, 2) := by decide +kernel
theorem d_X12_operand_383 : decode mX12_operand.2.2.1 383 = .ok (.iconst (-1), 1) := by decide +kernel
theorem d_X12_operand_384 : decode mX12_operand.2.2.1 384 = .ok (.if_icmp .ne 12, 3) := by decide +kernel
theorem d_X12_operand_387 : decode mX12_operand.2.2.1 387 = .ok (.aload_n 0, 1) := by decide +kernel
theorem d_X12_operand_388 : decode mX12_operand.2.2.1 388 = .ok (.iconst 3, 1) := by decide +kernel
theorem d_X12_operand_389 : decode mX12_operand.2.2.1 389 = .ok (.aload_n 0, 1) := by decide +kernel
theorem d_X12_operand_390 : decode mX12_operand.2.2.1 390 = .ok (.getfield 23, 3) := by decide +kernel
theorem d_X12_operand_393 : decode mX12_operand.2.2.1 393 = .ok (.invokevirtual 389, 3) := by decide +kernel
theorem d_X12_operand_396 : decode mX12_operand.2.2.1 396 = .ok (.aload_n 0, 1) := by decide +kernel
theorem d_X12_operand_397 : decode mX12_operand.2.2.1 397 = .ok (.getfield 36, 3) := by decide +kernel
theorem d_X12_operand_400 : decode mX12_operand.2.2.1 400 = .ok (.ifCond .le 5, 3) := by decide +kernel
theorem d_X12_operand_405 : decode mX12_operand.2.2.1 405 = .ok (.aload_n 0, 1) := by decide +kernel
theorem d_X12_operand_406 : decode mX12_operand.2.2.1 406 = .ok (.iload_n 3, 1) := by decide +kernel
theorem d_X12_operand_407 : decode mX12_operand.2.2.1 407 = .ok (.iload 4, 2) := by decide +kernel
theorem d_X12_operand_409 : decode mX12_operand.2.2.1 409 = .ok (.invokevirtual 475, 3) := by decide +kernel
theorem d_X12_operand_412 : decode mX12_operand.2.2.1 412 = .ok (.aload_n 0, 1) := by decide +kernel
theorem d_X12_operand_413 : decode mX12_operand.2.2.1 413 = .ok (.invokevirtual 396, 3) := by decide +kernel
theorem d_X12_operand_416 : decode mX12_operand.2.2.1 416 = .ok (.iconst 1, 1) := by decide +kernel
theorem d_X12_operand_417 : decode mX12_operand.2.2.1 417 = .ok (.ireturn, 1) := by decide +kernel
theorem d_X12_operand_403 : decode mX12_operand.2.2.1 403 = .ok (.iconst 1, 1) := by decide +kernel
theorem d_X12_operand_404 : decode mX12_operand.2.2.1 404 = .ok (.ireturn, 1) := by decide +kernel
theorem d_X12_operand_202 : decode mX12_operand.2.2.1 202 = .ok (.aload_n 0, 1) := by decide +kernel
theorem d_X12_operand_203 : decode mX12_operand.2.2.1 203 = .ok (.ldc2_w 449, 3) := by decide +kernel
theorem d_X12_operand_206 : decode mX12_operand.2.2.1 206 = .ok (.invokevirtual 484, 3) := by decide +kernel
theorem d_X12_operand_209 : decode mX12_operand.2.2.1 209 = .ok (.ifCond .eq 8, 3) := by decide +kernel
theorem d_X12_operand_217 : decode mX12_operand.2.2.1 217 = .ok (.bipush 12, 2) := by decide +kernel
theorem d_X12_operand_212 : decode mX12_operand.2.2.1 212 = .ok (.bipush 11, 2) := by decide +kernel
theorem d_X12_operand_214 : decode mX12_operand.2.2.1 214 = .ok (.goto 5, 3) := by decide +kernel
theorem d_X12_operand_219 : decode mX12_operand.2.2.1 219 = .ok (.istore_n 3, 1) := by decide +kernel
theorem d_X12_operand_220 : decode mX12_operand.2.2.1 220 = .ok (.aload_n 0, 1) := by decide +kernel
theorem d_X12_operand_221 : decode mX12_operand.2.2.1 221 = .ok (.invokevirtual 396, 3) := by decide +kernel
theorem d_X12_operand_224 : decode mX12_operand.2.2.1 224 = .ok (.aload_n 0, 1) := by decide +kernel
theorem d_X12_operand_225 : decode mX12_operand.2.2.1 225 = .ok (.bipush 40, 2) := by decide +kernel
theorem d_X12_operand_227 : decode mX12_operand.2.2.1 227 = .ok (.invokevirtual 393, 3) := by decide +kernel
theorem d_X12_operand_230 : decode mX12_operand.2.2.1 230 = .ok (.ifCond .ne 12, 3) := by decide +kernel
end
/-! 35.21 -/
section
theorem d_X12_operand_233 : decode mX12_operand.2.2.1 233 = .ok (.aload_n 0, 1) := by decide +kernel
theorem d_X12_operand_234 : decode mX12_operand.2.2.1 234 = .ok (.iconst 1, 1) := by decide +kernel
theorem d_X12_operand_235 : decode mX12_operand.2.2.1 235 = .ok (.aload_n 0, 1) := by decide +kernel
theorem d_X12_operand_236 : decode mX12_operand.2.2.1 236 = .ok (.getfield 23, 3) := by decide +kernel
theorem d_X12_operand_239 : decode mX12_operand.2.2.1 239 = .ok (.invokevirtual 389, 3) := by decide +kernel
theorem d_X12_operand_242 : decode mX12_operand.2.2.1 242 = .ok (.aload_n 0, 1) := by decide +kernel
theorem d_X12_operand_243 : decode mX12_operand.2.2.1 243 = .ok (.iconst 3, 1) := by decide +kernel
theorem d_X12_operand_244 : decode mX12_operand.2.2.1 244 = .ok (.invokevirtual 490, 3) := by decide +kernel
theorem d_X12_operand_247 : decode mX12_operand.2.2.1 247 = .ok (.aload_n 0, 1) := by decide +kernel
theorem d_X12_operand_248 : decode mX12_operand.2.2.1 248 = .ok (.getfield 36, 3) := by decide +kernel
theorem d_X12_operand_251 : decode mX12_operand.2.2.1 251 = .ok (.ifCond .ne 15, 3) := by decide +kernel
theorem d_X12_operand_266 : decode mX12_operand.2.2.1 266 = .ok (.iconst 0, 1) := by decide +kernel
theorem d_X12_operand_267 : decode mX12_operand.2.2.1 267 = .ok (.ireturn, 1) := by decide +kernel
theorem d_X12_operand_254 : decode mX12_operand.2.2.1 254 = .ok (.aload_n 0, 1) := by decide +kernel
theorem d_X12_operand_255 : decode mX12_operand.2.2.1 255 = .ok (.getfield 137, 3) := by decide +kernel
theorem d_X12_operand_258 : decode mX12_operand.2.2.1 258 = .ok (.aload_n 0, 1) := by decide +kernel
theorem d_X12_operand_259 : decode mX12_operand.2.2.1 259 = .ok (.getfield 143, 3) := by decide +kernel
theorem d_X12_operand_262 : decode mX12_operand.2.2.1 262 = .ok (.iconst 1, 1) := by decide +kernel
theorem d_X12_operand_263 : decode mX12_operand.2.2.1 263 = .ok (.isub, 1) := by decide +kernel
theorem d_X12_operand_264 : decode mX12_operand.2.2.1 264 = .ok (.iload_n 3, 1) := by decide +kernel
theorem d_X12_operand_265 : decode mX12_operand.2.2.1 265 = .ok (.iastore, 1) := by decide +kernel
theorem d_X12_operand_157 : decode mX12_operand.2.2.1 157 = .ok (.aload_n 0, 1) := by decide +kernel
theorem d_X12_operand_158 : decode mX12_operand.2.2.1 158 = .ok (.getfield 130, 3) := by decide +kernel
theorem d_X12_operand_161 : decode mX12_operand.2.2.1 161 = .ok (.iload_n 1, 1) := by decide +kernel
theorem d_X12_operand_162 : decode mX12_operand.2.2.1 162 = .ok (.iconst 2, 1) := by decide +kernel
theorem d_X12_operand_163 : decode mX12_operand.2.2.1 163 = .ok (.iastore, 1) := by decide +kernel
theorem d_X12_operand_164 : decode mX12_operand.2.2.1 164 = .ok (.iconst 1, 1) := by decide +kernel
theorem d_X12_operand_165 : decode mX12_operand.2.2.1 165 = .ok (.ireturn, 1) := by decide +kernel
theorem ok_X12_operand : e_m mX12_operand 0 := ⟨tblG_in (inT8 (List.mem_of_getElem? (i := 231) rfl)) rfl, plainFor_of_name (by decide), rfl, ini_12, by decide +kernel, by decide⟩
theorem d_X12_reads_54 : decode mX12_reads.2.2.1 54 = .ok (.putfield 155, 3) := by decide +kernel
theorem d_X12_reads_57 : decode mX12_reads.2.2.1 57 = .ok (.goto 8, 3) := by decide +kernel
theorem d_X12_reads_65 : decode mX12_reads.2.2.1 65 = .ok (.iload_n 2, 1) := by decide +kernel
theorem d_X12_reads_66 : decode mX12_reads.2.2.1 66 = .ok (.ifCond .eq 14, 3) := by decide +kernel
theorem d_X12_reads_69 : decode mX12_reads.2.2.1 69 = .ok (.aload_n 0, 1) := by decide +kernel
theorem d_X12_reads_70 : decode mX12_reads.2.2.1 70 = .ok (.getfield 36, 3) := by decide +kernel
theorem d_X12_reads_73 : decode mX12_reads.2.2.1 73 = .ok (.ifCond .ne 7, 3) := by decide +kernel
theorem d_X12_reads_76 : decode mX12_reads.2.2.1 76 = .ok (.iconst 1, 1) := by decide +kernel
theorem d_X12_reads_77 : decode mX12_reads.2.2.1 77 = .ok (.goto 4, 3) := by decide +kernel
theorem d_X12_reads_80 : decode mX12_reads.2.2.1 80 = .ok (.iconst 0, 1) := by decide +kernel
theorem d_X12_reads_81 : decode mX12_reads.2.2.1 81 = .ok (.istore_n 2, 1) := by decide +kernel
theorem d_X12_reads_82 : decode mX12_reads.2.2.1 82 = .ok (.goto (-44), 3) := by decide +kernel
theorem d_X12_reads_85 : decode mX12_reads.2.2.1 85 = .ok (.return_, 1) := by decide +kernel
theorem d_X12_reads_60 : decode mX12_reads.2.2.1 60 = .ok (.aload_n 0, 1) := by decide +kernel
theorem d_X12_reads_61 : decode mX12_reads.2.2.1 61 = .ok (.invokevirtual 502, 3) := by decide +kernel
def mX12_goesOn : MD := (12, yX12_goesOn, cX12_goesOn, 5, some .boolean)
theorem sel_X12_goesOn : Cond.instanceMethod mX12_goesOn.2.1 ∈ tblG ∧ Cond.selects mX12_goesOn.2.1.cls mX12_goesOn.2.1 mX12_goesOn.2.1 ∈ tblG := ⟨tblG_in (inT9 (List.mem_of_getElem? (i := 9) rfl)) rfl, tblG_in (inP7 (q := (mX12_goesOn.2.1, 121)) (List.mem_of_getElem? (i := 6) rfl)) rfl⟩
theorem s_12_502 : e_siteV 12 502 mX12_goesOn 12 := ⟨tblG_in (inT9 (List.mem_of_getElem? (i := 7) rfl)) rfl, sel_X12_goesOn.1, sel_X12_goesOn.2, rfl⟩
theorem d_X12_goesOn_0 : decode mX12_goesOn.2.2.1 0 = .ok (.aload_n 0, 1) := by decide +kernel
theorem d_X12_goesOn_1 : decode mX12_goesOn.2.2.1 1 = .ok (.getfield 143, 3) := by decide +kernel
theorem d_X12_goesOn_4 : decode mX12_goesOn.2.2.1 4 = .ok (.iconst 1, 1) := by decide +kernel
theorem d_X12_goesOn_5 : decode mX12_goesOn.2.2.1 5 = .ok (.isub, 1) := by decide +kernel
theorem d_X12_goesOn_6 : decode mX12_goesOn.2.2.1 6 = .ok (.istore_n 1, 1) := by decide +kernel
theorem d_X12_goesOn_7 : decode mX12_goesOn.2.2.1 7 = .ok (.aload_n 0, 1) := by decide +kernel
theorem d_X12_goesOn_8 : decode mX12_goesOn.2.2.1 8 = .ok (.getfield 127, 3) := by decide +kernel
theorem d_X12_goesOn_11 : decode mX12_goesOn.2.2.1 11 = .ok (.iload_n 1, 1) := by decide +kernel
theorem d_X12_goesOn_12 : decode mX12_goesOn.2.2.1 12 = .ok (.iaload, 1) := by decide +kernel
theorem d_X12_goesOn_13 : decode mX12_goesOn.2.2.1 13 = .ok (.istore_n 2, 1) := by decide +kernel
theorem d_X12_goesOn_14 : decode mX12_goesOn.2.2.1 14 = .ok (.iload_n 2, 1) := by decide +kernel
theorem d_X12_goesOn_15 : decode mX12_goesOn.2.2.1 15 = .ok (.invokestatic 481, 3) := by decide +kernel
theorem d_X12_goesOn_18 : decode mX12_goesOn.2.2.1 18 = .ok (.istore_n 3, 1) := by decide +kernel
theorem d_X12_goesOn_19 : decode mX12_goesOn.2.2.1 19 = .ok (.aload_n 0, 1) := by decide +kernel
theorem d_X12_goesOn_20 : decode mX12_goesOn.2.2.1 20 = .ok (.getfield 130, 3) := by decide +kernel
theorem d_X12_goesOn_23 : decode mX12_goesOn.2.2.1 23 = .ok (.iload_n 1, 1) := by decide +kernel
theorem d_X12_goesOn_24 : decode mX12_goesOn.2.2.1 24 = .ok (.iaload, 1) := by decide +kernel
theorem d_X12_goesOn_25 : decode mX12_goesOn.2.2.1 25 = .ok (.iconst 2, 1) := by decide +kernel
theorem d_X12_goesOn_26 : decode mX12_goesOn.2.2.1 26 = .ok (.if_icmp .ge 149, 3) := by decide +kernel
theorem d_X12_goesOn_29 : decode mX12_goesOn.2.2.1 29 = .ok (.aload_n 0, 1) := by decide +kernel
theorem d_X12_goesOn_30 : decode mX12_goesOn.2.2.1 30 = .ok (.bipush 43, 2) := by decide +kernel
theorem d_X12_goesOn_32 : decode mX12_goesOn.2.2.1 32 = .ok (.invokevirtual 393, 3) := by decide +kernel
theorem d_X12_goesOn_35 : decode mX12_goesOn.2.2.1 35 = .ok (.ifCond .ne 39, 3) := by decide +kernel
theorem d_X12_goesOn_38 : decode mX12_goesOn.2.2.1 38 = .ok (.aload_n 0, 1) := by decide +kernel
theorem d_X12_goesOn_39 : decode mX12_goesOn.2.2.1 39 = .ok (.bipush 45, 2) := by decide +kernel
theorem d_X12_goesOn_41 : decode mX12_goesOn.2.2.1 41 = .ok (.invokevirtual 393, 3) := by decide +kernel
theorem d_X12_goesOn_44 : decode mX12_goesOn.2.2.1 44 = .ok (.ifCond .ne 30, 3) := by decide +kernel
theorem d_X12_goesOn_47 : decode mX12_goesOn.2.2.1 47 = .ok (.aload_n 0, 1) := by decide +kernel
theorem d_X12_goesOn_48 : decode mX12_goesOn.2.2.1 48 = .ok (.bipush 42, 2) := by decide +kernel
theorem d_X12_goesOn_50 : decode mX12_goesOn.2.2.1 50 = .ok (.invokevirtual 393, 3) := by decide +kernel
theorem d_X12_goesOn_53 : decode mX12_goesOn.2.2.1 53 = .ok (.ifCond .ne 21, 3) := by decide +kernel
theorem d_X12_goesOn_56 : decode mX12_goesOn.2.2.1 56 = .ok (.aload_n 0, 1) := by decide +kernel
theorem d_X12_goesOn_57 : decode mX12_goesOn.2.2.1 57 = .ok (.bipush 47, 2) := by decide +kernel
theorem d_X12_goesOn_59 : decode mX12_goesOn.2.2.1 59 = .ok (.invokevirtual 393, 3) := by decide +kernel
theorem d_X12_goesOn_62 : decode mX12_goesOn.2.2.1 62 = .ok (.ifCond .ne 12, 3) := by decide +kernel
theorem d_X12_goesOn_65 : decode mX12_goesOn.2.2.1 65 = .ok (.aload_n 0, 1) := by decide +kernel
theorem d_X12_goesOn_66 : decode mX12_goesOn.2.2.1 66 = .ok (.bipush 37, 2) := by decide +kernel
theorem d_X12_goesOn_68 : decode mX12_goesOn.2.2.1 68 = .ok (.invokevirtual 393, 3) := by decide +kernel
theorem d_X12_goesOn_71 : decode mX12_goesOn.2.2.1 71 = .ok (.ifCond .eq 104, 3) := by decide +kernel
theorem d_X12_goesOn_175 : decode mX12_goesOn.2.2.1 175 = .ok (.iload_n 3, 1) := by decide +kernel
theorem d_X12_goesOn_176 : decode mX12_goesOn.2.2.1 176 = .ok (.ifCond .eq 96, 3) := by decide +kernel
theorem d_X12_goesOn_179 : decode mX12_goesOn.2.2.1 179 = .ok (.aload_n 0, 1) := by decide +kernel
theorem d_X12_goesOn_180 : decode mX12_goesOn.2.2.1 180 = .ok (.getfield 130, 3) := by decide +kernel
theorem d_X12_goesOn_183 : decode mX12_goesOn.2.2.1 183 = .ok (.iload_n 1, 1) := by decide +kernel
theorem d_X12_goesOn_184 : decode mX12_goesOn.2.2.1 184 = .ok (.iaload, 1) := by decide +kernel
theorem d_X12_goesOn_185 : decode mX12_goesOn.2.2.1 185 = .ok (.ifCond .ne 87, 3) := by decide +kernel
theorem d_X12_goesOn_188 : decode mX12_goesOn.2.2.1 188 = .ok (.aload_n 0, 1) := by decide +kernel
theorem d_X12_goesOn_189 : decode mX12_goesOn.2.2.1 189 = .ok (.bipush 60, 2) := by decide +kernel
theorem d_X12_goesOn_191 : decode mX12_goesOn.2.2.1 191 = .ok (.invokevirtual 393, 3) := by decide +kernel
theorem d_X12_goesOn_194 : decode mX12_goesOn.2.2.1 194 = .ok (.ifCond .ne 21, 3) := by decide +kernel
theorem d_X12_goesOn_197 : decode mX12_goesOn.2.2.1 197 = .ok (.aload_n 0, 1) := by decide +kernel
theorem d_X12_goesOn_198 : decode mX12_goesOn.2.2.1 198 = .ok (.bipush 62, 2) := by decide +kernel
theorem d_X12_goesOn_200 : decode mX12_goesOn.2.2.1 200 = .ok (.invokevirtual 393, 3) := by decide +kernel
theorem d_X12_goesOn_203 : decode mX12_goesOn.2.2.1 203 = .ok (.ifCond .ne 12, 3) := by decide +kernel
theorem d_X12_goesOn_206 : decode mX12_goesOn.2.2.1 206 = .ok (.aload_n 0, 1) := by decide +kernel
theorem d_X12_goesOn_207 : decode mX12_goesOn.2.2.1 207 = .ok (.bipush 61, 2) := by decide +kernel
theorem d_X12_goesOn_209 : decode mX12_goesOn.2.2.1 209 = .ok (.invokevirtual 393, 3) := by decide +kernel
theorem d_X12_goesOn_212 : decode mX12_goesOn.2.2.1 212 = .ok (.ifCond .eq 60, 3) := by decide +kernel
theorem d_X12_goesOn_272 : decode mX12_goesOn.2.2.1 272 = .ok (.iload_n 3, 1) := by decide +kernel
theorem d_X12_goesOn_273 : decode mX12_goesOn.2.2.1 273 = .ok (.ifCond .eq 114, 3) := by decide +kernel
theorem d_X12_goesOn_276 : decode mX12_goesOn.2.2.1 276 = .ok (.aload_n 0, 1) := by decide +kernel
theorem d_X12_goesOn_277 : decode mX12_goesOn.2.2.1 277 = .ok (.ldc2_w 439, 3) := by decide +kernel
theorem d_X12_goesOn_280 : decode mX12_goesOn.2.2.1 280 = .ok (.invokevirtual 484, 3) := by decide +kernel
theorem d_X12_goesOn_283 : decode mX12_goesOn.2.2.1 283 = .ok (.ifCond .ne 13, 3) := by decide +kernel
theorem d_X12_goesOn_286 : decode mX12_goesOn.2.2.1 286 = .ok (.aload_n 0, 1) := by decide +kernel
theorem d_X12_goesOn_287 : decode mX12_goesOn.2.2.1 287 = .ok (.ldc2_w 437, 3) := by decide +kernel
theorem d_X12_goesOn_290 : decode mX12_goesOn.2.2.1 290 = .ok (.invokevirtual 484, 3) := by decide +kernel
theorem d_X12_goesOn_293 : decode mX12_goesOn.2.2.1 293 = .ok (.ifCond .eq 94, 3) := by decide +kernel
theorem d_X12_goesOn_387 : decode mX12_goesOn.2.2.1 387 = .ok (.iload_n 3, 1) := by decide +kernel
theorem d_X12_goesOn_388 : decode mX12_goesOn.2.2.1 388 = .ok (.ifCond .eq 21, 3) := by decide +kernel
theorem d_X12_goesOn_391 : decode mX12_goesOn.2.2.1 391 = .ok (.aload_n 0, 1) := by decide +kernel
theorem d_X12_goesOn_392 : decode mX12_goesOn.2.2.1 392 = .ok (.getfield 130, 3) := by decide +kernel
theorem d_X12_goesOn_395 : decode mX12_goesOn.2.2.1 395 = .ok (.iload_n 1, 1) := by decide +kernel
theorem d_X12_goesOn_396 : decode mX12_goesOn.2.2.1 396 = .ok (.iaload, 1) := by decide +kernel
theorem d_X12_goesOn_397 : decode mX12_goesOn.2.2.1 397 = .ok (.ifCond .ne 12, 3) := by decide +kernel
theorem d_X12_goesOn_400 : decode mX12_goesOn.2.2.1 400 = .ok (.aload_n 0, 1) := by decide +kernel
theorem d_X12_goesOn_401 : decode mX12_goesOn.2.2.1 401 = .ok (.iconst 1, 1) := by decide +kernel
theorem d_X12_goesOn_402 : decode mX12_goesOn.2.2.1 402 = .ok (.aload_n 0, 1) := by decide +kernel
theorem d_X12_goesOn_403 : decode mX12_goesOn.2.2.1 403 = .ok (.getfield 23, 3) := by decide +kernel
theorem d_X12_goesOn_406 : decode mX12_goesOn.2.2.1 406 = .ok (.invokevirtual 389, 3) := by decide +kernel
theorem d_X12_goesOn_409 : decode mX12_goesOn.2.2.1 409 = .ok (.iload_n 2, 1) := by decide +kernel
theorem d_X12_goesOn_410 : decode mX12_goesOn.2.2.1 410 = .ok (.iconst 2, 1) := by decide +kernel
theorem d_X12_goesOn_411 : decode mX12_goesOn.2.2.1 411 = .ok (.if_icmp .ge 17, 3) := by decide +kernel
theorem d_X12_goesOn_428 : decode mX12_goesOn.2.2.1 428 = .ok (.iload_n 2, 1) := by decide +kernel
theorem d_X12_goesOn_429 : decode mX12_goesOn.2.2.1 429 = .ok (.iconst 3, 1) := by decide +kernel
theorem d_X12_goesOn_430 : decode mX12_goesOn.2.2.1 430 = .ok (.if_icmp .ne 53, 3) := by decide +kernel
theorem d_X12_goesOn_483 : decode mX12_goesOn.2.2.1 483 = .ok (.aload_n 0, 1) := by decide +kernel
theorem d_X12_goesOn_484 : decode mX12_goesOn.2.2.1 484 = .ok (.iload_n 2, 1) := by decide +kernel
theorem d_X12_goesOn_485 : decode mX12_goesOn.2.2.1 485 = .ok (.iconst 5, 1) := by decide +kernel
theorem d_X12_goesOn_486 : decode mX12_goesOn.2.2.1 486 = .ok (.if_icmp .ne 8, 3) := by decide +kernel
theorem d_X12_goesOn_494 : decode mX12_goesOn.2.2.1 494 = .ok (.bipush 41, 2) := by decide +kernel
theorem d_X12_goesOn_489 : decode mX12_goesOn.2.2.1 489 = .ok (.bipush 93, 2) := by decide +kernel
theorem d_X12_goesOn_491 : decode mX12_goesOn.2.2.1 491 = .ok (.goto 5, 3) := by decide +kernel
theorem d_X12_goesOn_433 : decode mX12_goesOn.2.2.1 433 = .ok (.aload_n 0, 1) := by decide +kernel
theorem d_X12_goesOn_434 : decode mX12_goesOn.2.2.1 434 = .ok (.bipush 44, 2) := by decide +kernel
theorem d_X12_goesOn_436 : decode mX12_goesOn.2.2.1 436 = .ok (.invokevirtual 393, 3) := by decide +kernel
theorem d_X12_goesOn_439 : decode mX12_goesOn.2.2.1 439 = .ok (.ifCond .ne 12, 3) := by decide +kernel
theorem d_X12_goesOn_442 : decode mX12_goesOn.2.2.1 442 = .ok (.aload_n 0, 1) := by decide +kernel
theorem d_X12_goesOn_443 : decode mX12_goesOn.2.2.1 443 = .ok (.iconst 1, 1) := by decide +kernel
theorem d_X12_goesOn_444 : decode mX12_goesOn.2.2.1 444 = .ok (.aload_n 0, 1) := by decide +kernel
theorem d_X12_goesOn_445 : decode mX12_goesOn.2.2.1 445 = .ok (.getfield 23, 3) := by decide +kernel
theorem d_X12_goesOn_448 : decode mX12_goesOn.2.2.1 448 = .ok (.invokevirtual 389, 3) := by decide +kernel
theorem d_X12_goesOn_414 : decode mX12_goesOn.2.2.1 414 = .ok (.aload_n 0, 1) := by decide +kernel
theorem d_X12_goesOn_415 : decode mX12_goesOn.2.2.1 415 = .ok (.getfield 36, 3) := by decide +kernel
theorem d_X12_goesOn_418 : decode mX12_goesOn.2.2.1 418 = .ok (.ifCond .ne 8, 3) := by decide +kernel
theorem d_X12_goesOn_426 : decode mX12_goesOn.2.2.1 426 = .ok (.iconst 0, 1) := by decide +kernel
theorem d_X12_goesOn_427 : decode mX12_goesOn.2.2.1 427 = .ok (.ireturn, 1) := by decide +kernel
theorem d_X12_goesOn_421 : decode mX12_goesOn.2.2.1 421 = .ok (.aload_n 0, 1) := by decide +kernel
theorem d_X12_goesOn_422 : decode mX12_goesOn.2.2.1 422 = .ok (.iconst 1, 1) := by decide +kernel
theorem d_X12_goesOn_423 : decode mX12_goesOn.2.2.1 423 = .ok (.invokevirtual 496, 3) := by decide +kernel
def mX12_joins : MD := (12, yX12_joins, cX12_joins, 2, none)
theorem sel_X12_joins : Cond.instanceMethod mX12_joins.2.1 ∈ tblG ∧ Cond.selects mX12_joins.2.1.cls mX12_joins.2.1 mX12_joins.2.1 ∈ tblG := ⟨tblG_in (inT9 (List.mem_of_getElem? (i := 13) rfl)) rfl, tblG_in (inP7 (q := (mX12_joins.2.1, 121)) (List.mem_of_getElem? (i := 7) rfl)) rfl⟩
theorem s_12_496 : e_siteV 12 496 mX12_joins 12 := ⟨tblG_in (inT9 (List.mem_of_getElem? (i := 11) rfl)) rfl, sel_X12_joins.1, sel_X12_joins.2, rfl⟩
theorem d_X12_joins_0 : decode mX12_joins.2.2.1 0 = .ok (.aload_n 0, 1) := by decide +kernel
theorem d_X12_joins_1 : decode mX12_joins.2.2.1 1 = .ok (.getfield 152, 3) := by decide +kernel
theorem d_X12_joins_4 : decode mX12_joins.2.2.1 4 = .ok (.aload_n 0, 1) := by decide +kernel
theorem d_X12_joins_5 : decode mX12_joins.2.2.1 5 = .ok (.getfield 140, 3) := by decide +kernel
theorem d_X12_joins_8 : decode mX12_joins.2.2.1 8 = .ok (.aload_n 0, 1) := by decide +kernel
theorem d_X12_joins_9 : decode mX12_joins.2.2.1 9 = .ok (.getfield 143, 3) := by decide +kernel
theorem d_X12_joins_12 : decode mX12_joins.2.2.1 12 = .ok (.iconst 1, 1) := by decide +kernel
theorem d_X12_joins_13 : decode mX12_joins.2.2.1 13 = .ok (.isub, 1) := by decide +kernel
theorem d_X12_joins_14 : decode mX12_joins.2.2.1 14 = .ok (.iaload, 1) := by decide +kernel
theorem d_X12_joins_15 : decode mX12_joins.2.2.1 15 = .ok (.if_icmp .le 48, 3) := by decide +kernel
theorem d_X12_joins_63 : decode mX12_joins.2.2.1 63 = .ok (.return_, 1) := by decide +kernel
theorem d_X12_joins_18 : decode mX12_joins.2.2.1 18 = .ok (.aload_n 0, 1) := by decide +kernel
theorem d_X12_joins_19 : decode mX12_joins.2.2.1 19 = .ok (.getfield 149, 3) := by decide +kernel
theorem d_X12_joins_22 : decode mX12_joins.2.2.1 22 = .ok (.aload_n 0, 1) := by decide +kernel
theorem d_X12_joins_23 : decode mX12_joins.2.2.1 23 = .ok (.getfield 152, 3) := by decide +kernel
theorem d_X12_joins_26 : decode mX12_joins.2.2.1 26 = .ok (.iconst 1, 1) := by decide +kernel
theorem d_X12_joins_27 : decode mX12_joins.2.2.1 27 = .ok (.isub, 1) := by decide +kernel
theorem d_X12_joins_28 : decode mX12_joins.2.2.1 28 = .ok (.iaload, 1) := by decide +kernel
theorem d_X12_joins_29 : decode mX12_joins.2.2.1 29 = .ok (.invokestatic 471, 3) := by decide +kernel
def mX12_rank : MD := (12, yX12_rank, cX12_rank, 1, some .int)
theorem s_12_471 : e_siteS 12 471 mX12_rank := ⟨tblG_in (inT9 (List.mem_of_getElem? (i := 15) rfl)) rfl, tblG_in (inT9 (List.mem_of_getElem? (i := 16) rfl)) rfl⟩
theorem d_X12_rank_0 : decode mX12_rank.2.2.1 0 = .ok (.iload_n 0, 1) := by decide +kernel
theorem d_X12_rank_1 : decode mX12_rank.2.2.1 1 = .ok (.bipush 17, 2) := by decide +kernel
theorem d_X12_rank_3 : decode mX12_rank.2.2.1 3 = .ok (.if_icmp .ne 7, 3) := by decide +kernel
theorem d_X12_rank_10 : decode mX12_rank.2.2.1 10 = .ok (.iload_n 0, 1) := by decide +kernel
theorem d_X12_rank_11 : decode mX12_rank.2.2.1 11 = .ok (.bipush 16, 2) := by decide +kernel
theorem d_X12_rank_13 : decode mX12_rank.2.2.1 13 = .ok (.if_icmp .ne 7, 3) := by decide +kernel
theorem d_X12_rank_20 : decode mX12_rank.2.2.1 20 = .ok (.iload_n 0, 1) := by decide +kernel
theorem d_X12_rank_21 : decode mX12_rank.2.2.1 21 = .ok (.bipush 18, 2) := by decide +kernel
theorem d_X12_rank_23 : decode mX12_rank.2.2.1 23 = .ok (.if_icmp .ne 7, 3) := by decide +kernel
theorem d_X12_rank_30 : decode mX12_rank.2.2.1 30 = .ok (.iload_n 0, 1) := by decide +kernel
theorem d_X12_rank_31 : decode mX12_rank.2.2.1 31 = .ok (.bipush 13, 2) := by decide +kernel
theorem d_X12_rank_33 : decode mX12_rank.2.2.1 33 = .ok (.if_icmp .eq 15, 3) := by decide +kernel
theorem d_X12_rank_48 : decode mX12_rank.2.2.1 48 = .ok (.iconst 4, 1) := by decide +kernel
theorem d_X12_rank_49 : decode mX12_rank.2.2.1 49 = .ok (.goto 21, 3) := by decide +kernel
theorem d_X12_rank_70 : decode mX12_rank.2.2.1 70 = .ok (.ireturn, 1) := by decide +kernel
theorem d_X12_rank_36 : decode mX12_rank.2.2.1 36 = .ok (.iload_n 0, 1) := by decide +kernel
theorem d_X12_rank_37 : decode mX12_rank.2.2.1 37 = .ok (.bipush 14, 2) := by decide +kernel
theorem d_X12_rank_39 : decode mX12_rank.2.2.1 39 = .ok (.if_icmp .eq 9, 3) := by decide +kernel
theorem d_X12_rank_42 : decode mX12_rank.2.2.1 42 = .ok (.iload_n 0, 1) := by decide +kernel
theorem d_X12_rank_43 : decode mX12_rank.2.2.1 43 = .ok (.bipush 15, 2) := by decide +kernel
theorem d_X12_rank_45 : decode mX12_rank.2.2.1 45 = .ok (.if_icmp .ne 7, 3) := by decide +kernel
theorem d_X12_rank_52 : decode mX12_rank.2.2.1 52 = .ok (.iload_n 0, 1) := by decide +kernel
theorem d_X12_rank_53 : decode mX12_rank.2.2.1 53 = .ok (.bipush 6, 2) := by decide +kernel
theorem d_X12_rank_55 : decode mX12_rank.2.2.1 55 = .ok (.if_icmp .eq 9, 3) := by decide +kernel
theorem d_X12_rank_64 : decode mX12_rank.2.2.1 64 = .ok (.iconst 5, 1) := by decide +kernel
theorem d_X12_rank_65 : decode mX12_rank.2.2.1 65 = .ok (.goto 5, 3) := by decide +kernel
theorem d_X12_rank_58 : decode mX12_rank.2.2.1 58 = .ok (.iload_n 0, 1) := by decide +kernel
theorem d_X12_rank_59 : decode mX12_rank.2.2.1 59 = .ok (.bipush 7, 2) := by decide +kernel
theorem d_X12_rank_61 : decode mX12_rank.2.2.1 61 = .ok (.if_icmp .ne 7, 3) := by decide +kernel
theorem d_X12_rank_68 : decode mX12_rank.2.2.1 68 = .ok (.bipush 6, 2) := by decide +kernel
theorem d_X12_rank_26 : decode mX12_rank.2.2.1 26 = .ok (.iconst 3, 1) := by decide +kernel
theorem d_X12_rank_27 : decode mX12_rank.2.2.1 27 = .ok (.goto 43, 3) := by decide +kernel
theorem d_X12_rank_16 : decode mX12_rank.2.2.1 16 = .ok (.iconst 2, 1) := by decide +kernel
theorem d_X12_rank_17 : decode mX12_rank.2.2.1 17 = .ok (.goto 53, 3) := by decide +kernel
theorem d_X12_rank_6 : decode mX12_rank.2.2.1 6 = .ok (.iconst 1, 1) := by decide +kernel
theorem d_X12_rank_7 : decode mX12_rank.2.2.1 7 = .ok (.goto 63, 3) := by decide +kernel
theorem ok_X12_rank : e_m mX12_rank 1 := ⟨tblG_in (inT9 (List.mem_of_getElem? (i := 17) rfl)) rfl, plainFor_of_name (by decide), rfl, ini_12, by decide +kernel, by decide⟩
theorem d_X12_joins_32 : decode mX12_joins.2.2.1 32 = .ok (.iload_n 1, 1) := by decide +kernel
theorem d_X12_joins_33 : decode mX12_joins.2.2.1 33 = .ok (.if_icmp .lt 30, 3) := by decide +kernel
theorem d_X12_joins_36 : decode mX12_joins.2.2.1 36 = .ok (.aload_n 0, 1) := by decide +kernel
theorem d_X12_joins_37 : decode mX12_joins.2.2.1 37 = .ok (.dup, 1) := by decide +kernel
theorem d_X12_joins_38 : decode mX12_joins.2.2.1 38 = .ok (.getfield 152, 3) := by decide +kernel
theorem d_X12_joins_41 : decode mX12_joins.2.2.1 41 = .ok (.iconst 1, 1) := by decide +kernel
theorem d_X12_joins_42 : decode mX12_joins.2.2.1 42 = .ok (.isub, 1) := by decide +kernel
theorem d_X12_joins_43 : decode mX12_joins.2.2.1 43 = .ok (.putfield 152, 3) := by decide +kernel
theorem d_X12_joins_46 : decode mX12_joins.2.2.1 46 = .ok (.aload_n 0, 1) := by decide +kernel
theorem d_X12_joins_47 : decode mX12_joins.2.2.1 47 = .ok (.aload_n 0, 1) := by decide +kernel
theorem d_X12_joins_48 : decode mX12_joins.2.2.1 48 = .ok (.getfield 149, 3) := by decide +kernel
theorem d_X12_joins_51 : decode mX12_joins.2.2.1 51 = .ok (.aload_n 0, 1) := by decide +kernel
end
/-! 35.22 -/
section
theorem d_X12_joins_52 : decode mX12_joins.2.2.1 52 = .ok (.getfield 152, 3) := by decide +kernel
theorem d_X12_joins_55 : decode mX12_joins.2.2.1 55 = .ok (.iaload, 1) := by decide +kernel
theorem d_X12_joins_56 : decode mX12_joins.2.2.1 56 = .ok (.iconst 0, 1) := by decide +kernel
theorem d_X12_joins_57 : decode mX12_joins.2.2.1 57 = .ok (.invokevirtual 475, 3) := by decide +kernel
theorem d_X12_joins_60 : decode mX12_joins.2.2.1 60 = .ok (.goto (-60), 3) := by decide +kernel
theorem ok_X12_joins : e_m mX12_joins 1 := ⟨tblG_in (inT9 (List.mem_of_getElem? (i := 14) rfl)) rfl, plainFor_of_name (by decide), rfl, ini_12, by decide +kernel, by decide⟩
theorem d_X12_goesOn_496 : decode mX12_goesOn.2.2.1 496 = .ok (.invokevirtual 393, 3) := by decide +kernel
theorem d_X12_goesOn_499 : decode mX12_goesOn.2.2.1 499 = .ok (.ifCond .ne 12, 3) := by decide +kernel
theorem d_X12_goesOn_502 : decode mX12_goesOn.2.2.1 502 = .ok (.aload_n 0, 1) := by decide +kernel
theorem d_X12_goesOn_503 : decode mX12_goesOn.2.2.1 503 = .ok (.iconst 1, 1) := by decide +kernel
theorem d_X12_goesOn_504 : decode mX12_goesOn.2.2.1 504 = .ok (.aload_n 0, 1) := by decide +kernel
theorem d_X12_goesOn_505 : decode mX12_goesOn.2.2.1 505 = .ok (.getfield 23, 3) := by decide +kernel
theorem d_X12_goesOn_508 : decode mX12_goesOn.2.2.1 508 = .ok (.invokevirtual 389, 3) := by decide +kernel
theorem d_X12_goesOn_511 : decode mX12_goesOn.2.2.1 511 = .ok (.aload_n 0, 1) := by decide +kernel
theorem d_X12_goesOn_512 : decode mX12_goesOn.2.2.1 512 = .ok (.getfield 36, 3) := by decide +kernel
theorem d_X12_goesOn_515 : decode mX12_goesOn.2.2.1 515 = .ok (.ifCond .le 5, 3) := by decide +kernel
theorem d_X12_goesOn_520 : decode mX12_goesOn.2.2.1 520 = .ok (.aload_n 0, 1) := by decide +kernel
theorem d_X12_goesOn_521 : decode mX12_goesOn.2.2.1 521 = .ok (.iconst 1, 1) := by decide +kernel
theorem d_X12_goesOn_522 : decode mX12_goesOn.2.2.1 522 = .ok (.invokevirtual 496, 3) := by decide +kernel
theorem d_X12_goesOn_525 : decode mX12_goesOn.2.2.1 525 = .ok (.aload_n 0, 1) := by decide +kernel
theorem d_X12_goesOn_526 : decode mX12_goesOn.2.2.1 526 = .ok (.dup, 1) := by decide +kernel
theorem d_X12_goesOn_527 : decode mX12_goesOn.2.2.1 527 = .ok (.getfield 143, 3) := by decide +kernel
theorem d_X12_goesOn_530 : decode mX12_goesOn.2.2.1 530 = .ok (.iconst 1, 1) := by decide +kernel
theorem d_X12_goesOn_531 : decode mX12_goesOn.2.2.1 531 = .ok (.isub, 1) := by decide +kernel
theorem d_X12_goesOn_532 : decode mX12_goesOn.2.2.1 532 = .ok (.putfield 143, 3) := by decide +kernel
theorem d_X12_goesOn_535 : decode mX12_goesOn.2.2.1 535 = .ok (.aload_n 0, 1) := by decide +kernel
theorem d_X12_goesOn_536 : decode mX12_goesOn.2.2.1 536 = .ok (.dup, 1) := by decide +kernel
theorem d_X12_goesOn_537 : decode mX12_goesOn.2.2.1 537 = .ok (.getfield 146, 3) := by decide +kernel
theorem d_X12_goesOn_540 : decode mX12_goesOn.2.2.1 540 = .ok (.iconst 1, 1) := by decide +kernel
theorem d_X12_goesOn_541 : decode mX12_goesOn.2.2.1 541 = .ok (.isub, 1) := by decide +kernel
theorem d_X12_goesOn_542 : decode mX12_goesOn.2.2.1 542 = .ok (.putfield 146, 3) := by decide +kernel
theorem d_X12_goesOn_545 : decode mX12_goesOn.2.2.1 545 = .ok (.iload_n 2, 1) := by decide +kernel
theorem d_X12_goesOn_546 : decode mX12_goesOn.2.2.1 546 = .ok (.iconst 4, 1) := by decide +kernel
theorem d_X12_goesOn_547 : decode mX12_goesOn.2.2.1 547 = .ok (.if_icmp .ne 14, 3) := by decide +kernel
theorem d_X12_goesOn_550 : decode mX12_goesOn.2.2.1 550 = .ok (.aload_n 0, 1) := by decide +kernel
theorem d_X12_goesOn_551 : decode mX12_goesOn.2.2.1 551 = .ok (.aload_n 0, 1) := by decide +kernel
theorem d_X12_goesOn_552 : decode mX12_goesOn.2.2.1 552 = .ok (.getfield 137, 3) := by decide +kernel
theorem d_X12_goesOn_555 : decode mX12_goesOn.2.2.1 555 = .ok (.iload_n 1, 1) := by decide +kernel
theorem d_X12_goesOn_556 : decode mX12_goesOn.2.2.1 556 = .ok (.iaload, 1) := by decide +kernel
theorem d_X12_goesOn_557 : decode mX12_goesOn.2.2.1 557 = .ok (.iconst 0, 1) := by decide +kernel
theorem d_X12_goesOn_558 : decode mX12_goesOn.2.2.1 558 = .ok (.invokevirtual 475, 3) := by decide +kernel
theorem d_X12_goesOn_518 : decode mX12_goesOn.2.2.1 518 = .ok (.iconst 0, 1) := by decide +kernel
theorem d_X12_goesOn_519 : decode mX12_goesOn.2.2.1 519 = .ok (.ireturn, 1) := by decide +kernel
theorem d_X12_goesOn_561 : decode mX12_goesOn.2.2.1 561 = .ok (.iload_n 2, 1) := by decide +kernel
theorem d_X12_goesOn_562 : decode mX12_goesOn.2.2.1 562 = .ok (.iconst 5, 1) := by decide +kernel
theorem d_X12_goesOn_563 : decode mX12_goesOn.2.2.1 563 = .ok (.if_icmp .ne 15, 3) := by decide +kernel
theorem d_X12_goesOn_566 : decode mX12_goesOn.2.2.1 566 = .ok (.aload_n 0, 1) := by decide +kernel
theorem d_X12_goesOn_567 : decode mX12_goesOn.2.2.1 567 = .ok (.getfield 130, 3) := by decide +kernel
theorem d_X12_goesOn_570 : decode mX12_goesOn.2.2.1 570 = .ok (.aload_n 0, 1) := by decide +kernel
theorem d_X12_goesOn_571 : decode mX12_goesOn.2.2.1 571 = .ok (.getfield 143, 3) := by decide +kernel
theorem d_X12_goesOn_574 : decode mX12_goesOn.2.2.1 574 = .ok (.iconst 1, 1) := by decide +kernel
theorem d_X12_goesOn_575 : decode mX12_goesOn.2.2.1 575 = .ok (.isub, 1) := by decide +kernel
theorem d_X12_goesOn_576 : decode mX12_goesOn.2.2.1 576 = .ok (.iconst 2, 1) := by decide +kernel
theorem d_X12_goesOn_577 : decode mX12_goesOn.2.2.1 577 = .ok (.iastore, 1) := by decide +kernel
theorem d_X12_goesOn_578 : decode mX12_goesOn.2.2.1 578 = .ok (.aload_n 0, 1) := by decide +kernel
theorem d_X12_goesOn_579 : decode mX12_goesOn.2.2.1 579 = .ok (.invokevirtual 396, 3) := by decide +kernel
theorem d_X12_goesOn_582 : decode mX12_goesOn.2.2.1 582 = .ok (.iconst 1, 1) := by decide +kernel
theorem d_X12_goesOn_583 : decode mX12_goesOn.2.2.1 583 = .ok (.ireturn, 1) := by decide +kernel
theorem d_X12_goesOn_451 : decode mX12_goesOn.2.2.1 451 = .ok (.aload_n 0, 1) := by decide +kernel
theorem d_X12_goesOn_452 : decode mX12_goesOn.2.2.1 452 = .ok (.getfield 36, 3) := by decide +kernel
theorem d_X12_goesOn_455 : decode mX12_goesOn.2.2.1 455 = .ok (.ifCond .le 5, 3) := by decide +kernel
theorem d_X12_goesOn_460 : decode mX12_goesOn.2.2.1 460 = .ok (.aload_n 0, 1) := by decide +kernel
theorem d_X12_goesOn_461 : decode mX12_goesOn.2.2.1 461 = .ok (.iconst 1, 1) := by decide +kernel
theorem d_X12_goesOn_462 : decode mX12_goesOn.2.2.1 462 = .ok (.invokevirtual 496, 3) := by decide +kernel
theorem d_X12_goesOn_465 : decode mX12_goesOn.2.2.1 465 = .ok (.aload_n 0, 1) := by decide +kernel
theorem d_X12_goesOn_466 : decode mX12_goesOn.2.2.1 466 = .ok (.getfield 127, 3) := by decide +kernel
theorem d_X12_goesOn_469 : decode mX12_goesOn.2.2.1 469 = .ok (.iload_n 1, 1) := by decide +kernel
theorem d_X12_goesOn_470 : decode mX12_goesOn.2.2.1 470 = .ok (.iconst 4, 1) := by decide +kernel
theorem d_X12_goesOn_471 : decode mX12_goesOn.2.2.1 471 = .ok (.iastore, 1) := by decide +kernel
theorem d_X12_goesOn_472 : decode mX12_goesOn.2.2.1 472 = .ok (.aload_n 0, 1) := by decide +kernel
theorem d_X12_goesOn_473 : decode mX12_goesOn.2.2.1 473 = .ok (.invokevirtual 396, 3) := by decide +kernel
theorem d_X12_goesOn_476 : decode mX12_goesOn.2.2.1 476 = .ok (.aload_n 0, 1) := by decide +kernel
theorem d_X12_goesOn_477 : decode mX12_goesOn.2.2.1 477 = .ok (.iconst 0, 1) := by decide +kernel
theorem d_X12_goesOn_478 : decode mX12_goesOn.2.2.1 478 = .ok (.putfield 155, 3) := by decide +kernel
theorem d_X12_goesOn_481 : decode mX12_goesOn.2.2.1 481 = .ok (.iconst 1, 1) := by decide +kernel
theorem d_X12_goesOn_482 : decode mX12_goesOn.2.2.1 482 = .ok (.ireturn, 1) := by decide +kernel
theorem d_X12_goesOn_458 : decode mX12_goesOn.2.2.1 458 = .ok (.iconst 0, 1) := by decide +kernel
theorem d_X12_goesOn_459 : decode mX12_goesOn.2.2.1 459 = .ok (.ireturn, 1) := by decide +kernel
theorem d_X12_goesOn_296 : decode mX12_goesOn.2.2.1 296 = .ok (.aload_n 0, 1) := by decide +kernel
theorem d_X12_goesOn_297 : decode mX12_goesOn.2.2.1 297 = .ok (.getfield 130, 3) := by decide +kernel
theorem d_X12_goesOn_300 : decode mX12_goesOn.2.2.1 300 = .ok (.iload_n 1, 1) := by decide +kernel
theorem d_X12_goesOn_301 : decode mX12_goesOn.2.2.1 301 = .ok (.iaload, 1) := by decide +kernel
theorem d_X12_goesOn_302 : decode mX12_goesOn.2.2.1 302 = .ok (.ifCond .ne 12, 3) := by decide +kernel
theorem d_X12_goesOn_305 : decode mX12_goesOn.2.2.1 305 = .ok (.aload_n 0, 1) := by decide +kernel
theorem d_X12_goesOn_306 : decode mX12_goesOn.2.2.1 306 = .ok (.iconst 1, 1) := by decide +kernel
theorem d_X12_goesOn_307 : decode mX12_goesOn.2.2.1 307 = .ok (.aload_n 0, 1) := by decide +kernel
theorem d_X12_goesOn_308 : decode mX12_goesOn.2.2.1 308 = .ok (.getfield 23, 3) := by decide +kernel
theorem d_X12_goesOn_311 : decode mX12_goesOn.2.2.1 311 = .ok (.invokevirtual 389, 3) := by decide +kernel
theorem d_X12_goesOn_314 : decode mX12_goesOn.2.2.1 314 = .ok (.aload_n 0, 1) := by decide +kernel
theorem d_X12_goesOn_315 : decode mX12_goesOn.2.2.1 315 = .ok (.getfield 36, 3) := by decide +kernel
theorem d_X12_goesOn_318 : decode mX12_goesOn.2.2.1 318 = .ok (.ifCond .le 5, 3) := by decide +kernel
theorem d_X12_goesOn_323 : decode mX12_goesOn.2.2.1 323 = .ok (.aload_n 0, 1) := by decide +kernel
theorem d_X12_goesOn_324 : decode mX12_goesOn.2.2.1 324 = .ok (.ldc2_w 439, 3) := by decide +kernel
theorem d_X12_goesOn_327 : decode mX12_goesOn.2.2.1 327 = .ok (.invokevirtual 484, 3) := by decide +kernel
theorem d_X12_goesOn_330 : decode mX12_goesOn.2.2.1 330 = .ok (.istore 4, 2) := by decide +kernel
theorem d_X12_goesOn_332 : decode mX12_goesOn.2.2.1 332 = .ok (.aload_n 0, 1) := by decide +kernel
theorem d_X12_goesOn_333 : decode mX12_goesOn.2.2.1 333 = .ok (.iload 4, 2) := by decide +kernel
theorem d_X12_goesOn_335 : decode mX12_goesOn.2.2.1 335 = .ok (.ifCond .eq 7, 3) := by decide +kernel
theorem d_X12_goesOn_342 : decode mX12_goesOn.2.2.1 342 = .ok (.iconst 1, 1) := by decide +kernel
theorem d_X12_goesOn_338 : decode mX12_goesOn.2.2.1 338 = .ok (.iconst 2, 1) := by decide +kernel
theorem d_X12_goesOn_339 : decode mX12_goesOn.2.2.1 339 = .ok (.goto 4, 3) := by decide +kernel
theorem d_X12_goesOn_321 : decode mX12_goesOn.2.2.1 321 = .ok (.iconst 0, 1) := by decide +kernel
theorem d_X12_goesOn_322 : decode mX12_goesOn.2.2.1 322 = .ok (.ireturn, 1) := by decide +kernel
theorem d_X12_goesOn_343 : decode mX12_goesOn.2.2.1 343 = .ok (.invokevirtual 496, 3) := by decide +kernel
theorem d_X12_goesOn_346 : decode mX12_goesOn.2.2.1 346 = .ok (.aload_n 0, 1) := by decide +kernel
theorem d_X12_goesOn_347 : decode mX12_goesOn.2.2.1 347 = .ok (.iload 4, 2) := by decide +kernel
theorem d_X12_goesOn_349 : decode mX12_goesOn.2.2.1 349 = .ok (.ifCond .eq 8, 3) := by decide +kernel
theorem d_X12_goesOn_357 : decode mX12_goesOn.2.2.1 357 = .ok (.bipush 17, 2) := by decide +kernel
theorem d_X12_goesOn_352 : decode mX12_goesOn.2.2.1 352 = .ok (.bipush 16, 2) := by decide +kernel
theorem d_X12_goesOn_354 : decode mX12_goesOn.2.2.1 354 = .ok (.goto 5, 3) := by decide +kernel
theorem d_X12_goesOn_359 : decode mX12_goesOn.2.2.1 359 = .ok (.invokevirtual 487, 3) := by decide +kernel
theorem d_X12_goesOn_362 : decode mX12_goesOn.2.2.1 362 = .ok (.aload_n 0, 1) := by decide +kernel
theorem d_X12_goesOn_363 : decode mX12_goesOn.2.2.1 363 = .ok (.getfield 130, 3) := by decide +kernel
theorem d_X12_goesOn_366 : decode mX12_goesOn.2.2.1 366 = .ok (.iload_n 1, 1) := by decide +kernel
theorem d_X12_goesOn_367 : decode mX12_goesOn.2.2.1 367 = .ok (.iconst 0, 1) := by decide +kernel
theorem d_X12_goesOn_368 : decode mX12_goesOn.2.2.1 368 = .ok (.iastore, 1) := by decide +kernel
theorem d_X12_goesOn_369 : decode mX12_goesOn.2.2.1 369 = .ok (.aload_n 0, 1) := by decide +kernel
theorem d_X12_goesOn_370 : decode mX12_goesOn.2.2.1 370 = .ok (.getfield 133, 3) := by decide +kernel
theorem d_X12_goesOn_373 : decode mX12_goesOn.2.2.1 373 = .ok (.iload_n 1, 1) := by decide +kernel
theorem d_X12_goesOn_374 : decode mX12_goesOn.2.2.1 374 = .ok (.iconst 1, 1) := by decide +kernel
theorem d_X12_goesOn_375 : decode mX12_goesOn.2.2.1 375 = .ok (.bastore, 1) := by decide +kernel
theorem d_X12_goesOn_376 : decode mX12_goesOn.2.2.1 376 = .ok (.aload_n 0, 1) := by decide +kernel
theorem d_X12_goesOn_377 : decode mX12_goesOn.2.2.1 377 = .ok (.invokevirtual 396, 3) := by decide +kernel
theorem d_X12_goesOn_380 : decode mX12_goesOn.2.2.1 380 = .ok (.aload_n 0, 1) := by decide +kernel
theorem d_X12_goesOn_381 : decode mX12_goesOn.2.2.1 381 = .ok (.iconst 0, 1) := by decide +kernel
theorem d_X12_goesOn_382 : decode mX12_goesOn.2.2.1 382 = .ok (.putfield 155, 3) := by decide +kernel
theorem d_X12_goesOn_385 : decode mX12_goesOn.2.2.1 385 = .ok (.iconst 1, 1) := by decide +kernel
theorem d_X12_goesOn_386 : decode mX12_goesOn.2.2.1 386 = .ok (.ireturn, 1) := by decide +kernel
theorem d_X12_goesOn_215 : decode mX12_goesOn.2.2.1 215 = .ok (.aload_n 0, 1) := by decide +kernel
theorem d_X12_goesOn_216 : decode mX12_goesOn.2.2.1 216 = .ok (.iconst 5, 1) := by decide +kernel
theorem d_X12_goesOn_217 : decode mX12_goesOn.2.2.1 217 = .ok (.invokevirtual 496, 3) := by decide +kernel
theorem d_X12_goesOn_220 : decode mX12_goesOn.2.2.1 220 = .ok (.aload_n 0, 1) := by decide +kernel
theorem d_X12_goesOn_221 : decode mX12_goesOn.2.2.1 221 = .ok (.aload_n 0, 1) := by decide +kernel
theorem d_X12_goesOn_222 : decode mX12_goesOn.2.2.1 222 = .ok (.bipush 60, 2) := by decide +kernel
theorem d_X12_goesOn_224 : decode mX12_goesOn.2.2.1 224 = .ok (.invokevirtual 393, 3) := by decide +kernel
theorem d_X12_goesOn_227 : decode mX12_goesOn.2.2.1 227 = .ok (.ifCond .eq 8, 3) := by decide +kernel
theorem d_X12_goesOn_235 : decode mX12_goesOn.2.2.1 235 = .ok (.aload_n 0, 1) := by decide +kernel
theorem d_X12_goesOn_236 : decode mX12_goesOn.2.2.1 236 = .ok (.bipush 62, 2) := by decide +kernel
theorem d_X12_goesOn_238 : decode mX12_goesOn.2.2.1 238 = .ok (.invokevirtual 393, 3) := by decide +kernel
theorem d_X12_goesOn_241 : decode mX12_goesOn.2.2.1 241 = .ok (.ifCond .eq 8, 3) := by decide +kernel
theorem d_X12_goesOn_249 : decode mX12_goesOn.2.2.1 249 = .ok (.bipush 15, 2) := by decide +kernel
theorem d_X12_goesOn_244 : decode mX12_goesOn.2.2.1 244 = .ok (.bipush 14, 2) := by decide +kernel
theorem d_X12_goesOn_246 : decode mX12_goesOn.2.2.1 246 = .ok (.goto 5, 3) := by decide +kernel
theorem d_X12_goesOn_230 : decode mX12_goesOn.2.2.1 230 = .ok (.bipush 13, 2) := by decide +kernel
theorem d_X12_goesOn_232 : decode mX12_goesOn.2.2.1 232 = .ok (.goto 19, 3) := by decide +kernel
theorem d_X12_goesOn_251 : decode mX12_goesOn.2.2.1 251 = .ok (.invokevirtual 487, 3) := by decide +kernel
theorem d_X12_goesOn_254 : decode mX12_goesOn.2.2.1 254 = .ok (.aload_n 0, 1) := by decide +kernel
theorem d_X12_goesOn_255 : decode mX12_goesOn.2.2.1 255 = .ok (.getfield 130, 3) := by decide +kernel
theorem d_X12_goesOn_258 : decode mX12_goesOn.2.2.1 258 = .ok (.iload_n 1, 1) := by decide +kernel
theorem d_X12_goesOn_259 : decode mX12_goesOn.2.2.1 259 = .ok (.iconst 1, 1) := by decide +kernel
theorem d_X12_goesOn_260 : decode mX12_goesOn.2.2.1 260 = .ok (.iastore, 1) := by decide +kernel
theorem d_X12_goesOn_261 : decode mX12_goesOn.2.2.1 261 = .ok (.aload_n 0, 1) := by decide +kernel
theorem d_X12_goesOn_262 : decode mX12_goesOn.2.2.1 262 = .ok (.invokevirtual 396, 3) := by decide +kernel
theorem d_X12_goesOn_265 : decode mX12_goesOn.2.2.1 265 = .ok (.aload_n 0, 1) := by decide +kernel
theorem d_X12_goesOn_266 : decode mX12_goesOn.2.2.1 266 = .ok (.iconst 0, 1) := by decide +kernel
theorem d_X12_goesOn_267 : decode mX12_goesOn.2.2.1 267 = .ok (.putfield 155, 3) := by decide +kernel
theorem d_X12_goesOn_270 : decode mX12_goesOn.2.2.1 270 = .ok (.iconst 1, 1) := by decide +kernel
theorem d_X12_goesOn_271 : decode mX12_goesOn.2.2.1 271 = .ok (.ireturn, 1) := by decide +kernel
theorem d_X12_goesOn_74 : decode mX12_goesOn.2.2.1 74 = .ok (.aload_n 0, 1) := by decide +kernel
theorem d_X12_goesOn_75 : decode mX12_goesOn.2.2.1 75 = .ok (.aload_n 0, 1) := by decide +kernel
theorem d_X12_goesOn_76 : decode mX12_goesOn.2.2.1 76 = .ok (.bipush 43, 2) := by decide +kernel
theorem d_X12_goesOn_78 : decode mX12_goesOn.2.2.1 78 = .ok (.invokevirtual 393, 3) := by decide +kernel
theorem d_X12_goesOn_81 : decode mX12_goesOn.2.2.1 81 = .ok (.ifCond .ne 12, 3) := by decide +kernel
theorem d_X12_goesOn_84 : decode mX12_goesOn.2.2.1 84 = .ok (.aload_n 0, 1) := by decide +kernel
theorem d_X12_goesOn_85 : decode mX12_goesOn.2.2.1 85 = .ok (.bipush 45, 2) := by decide +kernel
theorem d_X12_goesOn_87 : decode mX12_goesOn.2.2.1 87 = .ok (.invokevirtual 393, 3) := by decide +kernel
theorem d_X12_goesOn_90 : decode mX12_goesOn.2.2.1 90 = .ok (.ifCond .eq 7, 3) := by decide +kernel
theorem d_X12_goesOn_97 : decode mX12_goesOn.2.2.1 97 = .ok (.bipush 6, 2) := by decide +kernel
theorem d_X12_goesOn_93 : decode mX12_goesOn.2.2.1 93 = .ok (.iconst 5, 1) := by decide +kernel
theorem d_X12_goesOn_94 : decode mX12_goesOn.2.2.1 94 = .ok (.goto 5, 3) := by decide +kernel
theorem d_X12_goesOn_99 : decode mX12_goesOn.2.2.1 99 = .ok (.invokevirtual 496, 3) := by decide +kernel
theorem d_X12_goesOn_102 : decode mX12_goesOn.2.2.1 102 = .ok (.aload_n 0, 1) := by decide +kernel
theorem d_X12_goesOn_103 : decode mX12_goesOn.2.2.1 103 = .ok (.aload_n 0, 1) := by decide +kernel
theorem d_X12_goesOn_104 : decode mX12_goesOn.2.2.1 104 = .ok (.bipush 43, 2) := by decide +kernel
theorem d_X12_goesOn_106 : decode mX12_goesOn.2.2.1 106 = .ok (.invokevirtual 393, 3) := by decide +kernel
theorem d_X12_goesOn_109 : decode mX12_goesOn.2.2.1 109 = .ok (.ifCond .eq 8, 3) := by decide +kernel
theorem d_X12_goesOn_117 : decode mX12_goesOn.2.2.1 117 = .ok (.aload_n 0, 1) := by decide +kernel
theorem d_X12_goesOn_118 : decode mX12_goesOn.2.2.1 118 = .ok (.bipush 45, 2) := by decide +kernel
theorem d_X12_goesOn_120 : decode mX12_goesOn.2.2.1 120 = .ok (.invokevirtual 393, 3) := by decide +kernel
theorem d_X12_goesOn_123 : decode mX12_goesOn.2.2.1 123 = .ok (.ifCond .eq 8, 3) := by decide +kernel
theorem d_X12_goesOn_131 : decode mX12_goesOn.2.2.1 131 = .ok (.aload_n 0, 1) := by decide +kernel
theorem d_X12_goesOn_132 : decode mX12_goesOn.2.2.1 132 = .ok (.bipush 42, 2) := by decide +kernel
theorem d_X12_goesOn_134 : decode mX12_goesOn.2.2.1 134 = .ok (.invokevirtual 393, 3) := by decide +kernel
theorem d_X12_goesOn_137 : decode mX12_goesOn.2.2.1 137 = .ok (.ifCond .eq 8, 3) := by decide +kernel
theorem d_X12_goesOn_145 : decode mX12_goesOn.2.2.1 145 = .ok (.aload_n 0, 1) := by decide +kernel
theorem d_X12_goesOn_146 : decode mX12_goesOn.2.2.1 146 = .ok (.bipush 47, 2) := by decide +kernel
theorem d_X12_goesOn_148 : decode mX12_goesOn.2.2.1 148 = .ok (.invokevirtual 393, 3) := by decide +kernel
theorem d_X12_goesOn_151 : decode mX12_goesOn.2.2.1 151 = .ok (.ifCond .eq 8, 3) := by decide +kernel
theorem d_X12_goesOn_159 : decode mX12_goesOn.2.2.1 159 = .ok (.bipush 10, 2) := by decide +kernel
theorem d_X12_goesOn_154 : decode mX12_goesOn.2.2.1 154 = .ok (.bipush 9, 2) := by decide +kernel
theorem d_X12_goesOn_156 : decode mX12_goesOn.2.2.1 156 = .ok (.goto 5, 3) := by decide +kernel
theorem d_X12_goesOn_140 : decode mX12_goesOn.2.2.1 140 = .ok (.bipush 8, 2) := by decide +kernel
theorem d_X12_goesOn_142 : decode mX12_goesOn.2.2.1 142 = .ok (.goto 19, 3) := by decide +kernel
theorem d_X12_goesOn_126 : decode mX12_goesOn.2.2.1 126 = .ok (.bipush 7, 2) := by decide +kernel
theorem d_X12_goesOn_128 : decode mX12_goesOn.2.2.1 128 = .ok (.goto 33, 3) := by decide +kernel
theorem d_X12_goesOn_112 : decode mX12_goesOn.2.2.1 112 = .ok (.bipush 6, 2) := by decide +kernel
theorem d_X12_goesOn_114 : decode mX12_goesOn.2.2.1 114 = .ok (.goto 47, 3) := by decide +kernel
theorem d_X12_goesOn_161 : decode mX12_goesOn.2.2.1 161 = .ok (.invokevirtual 487, 3) := by decide +kernel
theorem d_X12_goesOn_164 : decode mX12_goesOn.2.2.1 164 = .ok (.aload_n 0, 1) := by decide +kernel
theorem d_X12_goesOn_165 : decode mX12_goesOn.2.2.1 165 = .ok (.invokevirtual 396, 3) := by decide +kernel
theorem d_X12_goesOn_168 : decode mX12_goesOn.2.2.1 168 = .ok (.aload_n 0, 1) := by decide +kernel
theorem d_X12_goesOn_169 : decode mX12_goesOn.2.2.1 169 = .ok (.iconst 0, 1) := by decide +kernel
theorem d_X12_goesOn_170 : decode mX12_goesOn.2.2.1 170 = .ok (.putfield 155, 3) := by decide +kernel
theorem d_X12_goesOn_173 : decode mX12_goesOn.2.2.1 173 = .ok (.iconst 1, 1) := by decide +kernel
theorem d_X12_goesOn_174 : decode mX12_goesOn.2.2.1 174 = .ok (.ireturn, 1) := by decide +kernel
theorem ok_X12_goesOn : e_m mX12_goesOn 0 := ⟨tblG_in (inT9 (List.mem_of_getElem? (i := 10) rfl)) rfl, plainFor_of_name (by decide), rfl, ini_12, by decide +kernel, by decide⟩
theorem d_X12_reads_64 : decode mX12_reads.2.2.1 64 = .ok (.istore_n 2, 1) := by decide +kernel
theorem ok_X12_reads : e_m mX12_reads 1 := ⟨tblG_in (inT8 (List.mem_of_getElem? (i := 223) rfl)) rfl, plainFor_of_name (by decide), rfl, ini_12, by decide +kernel, by decide⟩
theorem d_X12_statement_179 : decode mX12_statement.2.2.1 179 = .ok (.aload_n 0, 1) := by decide +kernel
theorem d_X12_statement_180 : decode mX12_statement.2.2.1 180 = .ok (.getfield 109, 3) := by decide +kernel
theorem d_X12_statement_183 : decode mX12_statement.2.2.1 183 = .ok (.iload_n 2, 1) := by decide +kernel
theorem d_X12_statement_184 : decode mX12_statement.2.2.1 184 = .ok (.aload_n 0, 1) := by decide +kernel
theorem d_X12_statement_185 : decode mX12_statement.2.2.1 185 = .ok (.getfield 121, 3) := by decide +kernel
theorem d_X12_statement_188 : decode mX12_statement.2.2.1 188 = .ok (.iastore, 1) := by decide +kernel
theorem d_X12_statement_189 : decode mX12_statement.2.2.1 189 = .ok (.aload_n 0, 1) := by decide +kernel
theorem d_X12_statement_190 : decode mX12_statement.2.2.1 190 = .ok (.getfield 36, 3) := by decide +kernel
theorem d_X12_statement_193 : decode mX12_statement.2.2.1 193 = .ok (.ifCond .le 4, 3) := by decide +kernel
theorem d_X12_statement_197 : decode mX12_statement.2.2.1 197 = .ok (.iload_n 1, 1) := by decide +kernel
theorem d_X12_statement_198 : decode mX12_statement.2.2.1 198 = .ok (.bipush 7, 2) := by decide +kernel
theorem d_X12_statement_200 : decode mX12_statement.2.2.1 200 = .ok (.if_icmp .lt 22, 3) := by decide +kernel
theorem d_X12_statement_222 : decode mX12_statement.2.2.1 222 = .ok (.aload_n 0, 1) := by decide +kernel
theorem d_X12_statement_223 : decode mX12_statement.2.2.1 223 = .ok (.bipush 59, 2) := by decide +kernel
theorem d_X12_statement_225 : decode mX12_statement.2.2.1 225 = .ok (.invokevirtual 529, 3) := by decide +kernel
theorem d_X12_statement_228 : decode mX12_statement.2.2.1 228 = .ok (.return_, 1) := by decide +kernel
theorem d_X12_statement_203 : decode mX12_statement.2.2.1 203 = .ok (.aload_n 0, 1) := by decide +kernel
theorem d_X12_statement_204 : decode mX12_statement.2.2.1 204 = .ok (.iload_n 1, 1) := by decide +kernel
theorem d_X12_statement_205 : decode mX12_statement.2.2.1 205 = .ok (.bipush 7, 2) := by decide +kernel
theorem d_X12_statement_207 : decode mX12_statement.2.2.1 207 = .ok (.if_icmp .ne 7, 3) := by decide +kernel
theorem d_X12_statement_214 : decode mX12_statement.2.2.1 214 = .ok (.iconst 2, 1) := by decide +kernel
theorem d_X12_statement_210 : decode mX12_statement.2.2.1 210 = .ok (.iconst 0, 1) := by decide +kernel
end
/-! 35.23 -/
section
theorem d_X12_statement_211 : decode mX12_statement.2.2.1 211 = .ok (.goto 4, 3) := by decide +kernel
theorem d_X12_statement_196 : decode mX12_statement.2.2.1 196 = .ok (.return_, 1) := by decide +kernel
theorem d_X12_statement_215 : decode mX12_statement.2.2.1 215 = .ok (.iload_n 2, 1) := by decide +kernel
theorem d_X12_statement_216 : decode mX12_statement.2.2.1 216 = .ok (.invokevirtual 534, 3) := by decide +kernel
def mX12_opensBlock : MD := (12, yX12_opensBlock, cX12_opensBlock, 3, none)
theorem sel_X12_opensBlock : Cond.instanceMethod mX12_opensBlock.2.1 ∈ tblG ∧ Cond.selects mX12_opensBlock.2.1.cls mX12_opensBlock.2.1 mX12_opensBlock.2.1 ∈ tblG := ⟨tblG_in (inT8 (List.mem_of_getElem? (i := 206) rfl)) rfl, tblG_in (inP6 (q := (mX12_opensBlock.2.1, 121)) (List.mem_of_getElem? (i := 12) rfl)) rfl⟩
theorem s_12_534 : e_siteV 12 534 mX12_opensBlock 12 := ⟨tblG_in (inT8 (List.mem_of_getElem? (i := 204) rfl)) rfl, sel_X12_opensBlock.1, sel_X12_opensBlock.2, rfl⟩
theorem d_X12_opensBlock_0 : decode mX12_opensBlock.2.2.1 0 = .ok (.aload_n 0, 1) := by decide +kernel
theorem d_X12_opensBlock_1 : decode mX12_opensBlock.2.2.1 1 = .ok (.bipush 123, 2) := by decide +kernel
theorem d_X12_opensBlock_3 : decode mX12_opensBlock.2.2.1 3 = .ok (.invokevirtual 393, 3) := by decide +kernel
theorem d_X12_opensBlock_6 : decode mX12_opensBlock.2.2.1 6 = .ok (.ifCond .ne 12, 3) := by decide +kernel
theorem d_X12_opensBlock_9 : decode mX12_opensBlock.2.2.1 9 = .ok (.aload_n 0, 1) := by decide +kernel
theorem d_X12_opensBlock_10 : decode mX12_opensBlock.2.2.1 10 = .ok (.iconst 1, 1) := by decide +kernel
theorem d_X12_opensBlock_11 : decode mX12_opensBlock.2.2.1 11 = .ok (.aload_n 0, 1) := by decide +kernel
theorem d_X12_opensBlock_12 : decode mX12_opensBlock.2.2.1 12 = .ok (.getfield 23, 3) := by decide +kernel
theorem d_X12_opensBlock_15 : decode mX12_opensBlock.2.2.1 15 = .ok (.invokevirtual 389, 3) := by decide +kernel
theorem d_X12_opensBlock_18 : decode mX12_opensBlock.2.2.1 18 = .ok (.aload_n 0, 1) := by decide +kernel
theorem d_X12_opensBlock_19 : decode mX12_opensBlock.2.2.1 19 = .ok (.getfield 36, 3) := by decide +kernel
theorem d_X12_opensBlock_22 : decode mX12_opensBlock.2.2.1 22 = .ok (.ifCond .ne 21, 3) := by decide +kernel
theorem d_X12_opensBlock_25 : decode mX12_opensBlock.2.2.1 25 = .ok (.aload_n 0, 1) := by decide +kernel
theorem d_X12_opensBlock_26 : decode mX12_opensBlock.2.2.1 26 = .ok (.getfield 146, 3) := by decide +kernel
theorem d_X12_opensBlock_29 : decode mX12_opensBlock.2.2.1 29 = .ok (.bipush 8, 2) := by decide +kernel
theorem d_X12_opensBlock_31 : decode mX12_opensBlock.2.2.1 31 = .ok (.if_icmp .ne 12, 3) := by decide +kernel
theorem d_X12_opensBlock_34 : decode mX12_opensBlock.2.2.1 34 = .ok (.aload_n 0, 1) := by decide +kernel
theorem d_X12_opensBlock_35 : decode mX12_opensBlock.2.2.1 35 = .ok (.iconst 5, 1) := by decide +kernel
theorem d_X12_opensBlock_36 : decode mX12_opensBlock.2.2.1 36 = .ok (.aload_n 0, 1) := by decide +kernel
theorem d_X12_opensBlock_37 : decode mX12_opensBlock.2.2.1 37 = .ok (.getfield 23, 3) := by decide +kernel
theorem d_X12_opensBlock_40 : decode mX12_opensBlock.2.2.1 40 = .ok (.invokevirtual 389, 3) := by decide +kernel
theorem d_X12_opensBlock_43 : decode mX12_opensBlock.2.2.1 43 = .ok (.aload_n 0, 1) := by decide +kernel
theorem d_X12_opensBlock_44 : decode mX12_opensBlock.2.2.1 44 = .ok (.getfield 36, 3) := by decide +kernel
theorem d_X12_opensBlock_47 : decode mX12_opensBlock.2.2.1 47 = .ok (.ifCond .le 4, 3) := by decide +kernel
theorem d_X12_opensBlock_51 : decode mX12_opensBlock.2.2.1 51 = .ok (.aload_n 0, 1) := by decide +kernel
theorem d_X12_opensBlock_52 : decode mX12_opensBlock.2.2.1 52 = .ok (.dup, 1) := by decide +kernel
theorem d_X12_opensBlock_53 : decode mX12_opensBlock.2.2.1 53 = .ok (.getfield 146, 3) := by decide +kernel
theorem d_X12_opensBlock_56 : decode mX12_opensBlock.2.2.1 56 = .ok (.iconst 1, 1) := by decide +kernel
theorem d_X12_opensBlock_57 : decode mX12_opensBlock.2.2.1 57 = .ok (.iadd, 1) := by decide +kernel
theorem d_X12_opensBlock_58 : decode mX12_opensBlock.2.2.1 58 = .ok (.putfield 146, 3) := by decide +kernel
theorem d_X12_opensBlock_61 : decode mX12_opensBlock.2.2.1 61 = .ok (.aload_n 0, 1) := by decide +kernel
theorem d_X12_opensBlock_62 : decode mX12_opensBlock.2.2.1 62 = .ok (.invokevirtual 396, 3) := by decide +kernel
theorem d_X12_opensBlock_65 : decode mX12_opensBlock.2.2.1 65 = .ok (.aload_n 0, 1) := by decide +kernel
theorem d_X12_opensBlock_66 : decode mX12_opensBlock.2.2.1 66 = .ok (.getfield 159, 3) := by decide +kernel
theorem d_X12_opensBlock_69 : decode mX12_opensBlock.2.2.1 69 = .ok (.aload_n 0, 1) := by decide +kernel
theorem d_X12_opensBlock_70 : decode mX12_opensBlock.2.2.1 70 = .ok (.getfield 165, 3) := by decide +kernel
theorem d_X12_opensBlock_73 : decode mX12_opensBlock.2.2.1 73 = .ok (.iload_n 1, 1) := by decide +kernel
theorem d_X12_opensBlock_74 : decode mX12_opensBlock.2.2.1 74 = .ok (.iastore, 1) := by decide +kernel
theorem d_X12_opensBlock_75 : decode mX12_opensBlock.2.2.1 75 = .ok (.aload_n 0, 1) := by decide +kernel
theorem d_X12_opensBlock_76 : decode mX12_opensBlock.2.2.1 76 = .ok (.getfield 162, 3) := by decide +kernel
theorem d_X12_opensBlock_79 : decode mX12_opensBlock.2.2.1 79 = .ok (.aload_n 0, 1) := by decide +kernel
theorem d_X12_opensBlock_80 : decode mX12_opensBlock.2.2.1 80 = .ok (.getfield 165, 3) := by decide +kernel
theorem d_X12_opensBlock_83 : decode mX12_opensBlock.2.2.1 83 = .ok (.iload_n 2, 1) := by decide +kernel
theorem d_X12_opensBlock_84 : decode mX12_opensBlock.2.2.1 84 = .ok (.iastore, 1) := by decide +kernel
theorem d_X12_opensBlock_85 : decode mX12_opensBlock.2.2.1 85 = .ok (.aload_n 0, 1) := by decide +kernel
theorem d_X12_opensBlock_86 : decode mX12_opensBlock.2.2.1 86 = .ok (.dup, 1) := by decide +kernel
theorem d_X12_opensBlock_87 : decode mX12_opensBlock.2.2.1 87 = .ok (.getfield 165, 3) := by decide +kernel
theorem d_X12_opensBlock_90 : decode mX12_opensBlock.2.2.1 90 = .ok (.iconst 1, 1) := by decide +kernel
theorem d_X12_opensBlock_91 : decode mX12_opensBlock.2.2.1 91 = .ok (.iadd, 1) := by decide +kernel
theorem d_X12_opensBlock_92 : decode mX12_opensBlock.2.2.1 92 = .ok (.putfield 165, 3) := by decide +kernel
theorem d_X12_opensBlock_95 : decode mX12_opensBlock.2.2.1 95 = .ok (.return_, 1) := by decide +kernel
theorem d_X12_opensBlock_50 : decode mX12_opensBlock.2.2.1 50 = .ok (.return_, 1) := by decide +kernel
theorem ok_X12_opensBlock : e_m mX12_opensBlock 2 := ⟨tblG_in (inT8 (List.mem_of_getElem? (i := 207) rfl)) rfl, plainFor_of_name (by decide), rfl, ini_12, by decide +kernel, by decide⟩
theorem d_X12_statement_219 : decode mX12_statement.2.2.1 219 = .ok (.goto 9, 3) := by decide +kernel
theorem ok_X12_statement : e_m mX12_statement 0 := ⟨tblG_in (inT8 (List.mem_of_getElem? (i := 211) rfl)) rfl, plainFor_of_name (by decide), rfl, ini_12, by decide +kernel, by decide⟩
theorem d_X12_text_231 : decode mX12_text.2.2.1 231 = .ok (.goto (-48), 3) := by decide +kernel
theorem d_X12_text_211 : decode mX12_text.2.2.1 211 = .ok (.aload_n 0, 1) := by decide +kernel
theorem d_X12_text_212 : decode mX12_text.2.2.1 212 = .ok (.bipush 125, 2) := by decide +kernel
theorem d_X12_text_214 : decode mX12_text.2.2.1 214 = .ok (.invokevirtual 393, 3) := by decide +kernel
theorem d_X12_text_217 : decode mX12_text.2.2.1 217 = .ok (.ifCond .eq 10, 3) := by decide +kernel
theorem d_X12_text_220 : decode mX12_text.2.2.1 220 = .ok (.aload_n 0, 1) := by decide +kernel
theorem d_X12_text_221 : decode mX12_text.2.2.1 221 = .ok (.invokevirtual 547, 3) := by decide +kernel
def mX12_closesBlock : MD := (12, yX12_closesBlock, cX12_closesBlock, 4, none)
theorem sel_X12_closesBlock : Cond.instanceMethod mX12_closesBlock.2.1 ∈ tblG ∧ Cond.selects mX12_closesBlock.2.1.cls mX12_closesBlock.2.1 mX12_closesBlock.2.1 ∈ tblG := ⟨tblG_in (inT8 (List.mem_of_getElem? (i := 198) rfl)) rfl, tblG_in (inP6 (q := (mX12_closesBlock.2.1, 121)) (List.mem_of_getElem? (i := 10) rfl)) rfl⟩
theorem s_12_547 : e_siteV 12 547 mX12_closesBlock 12 := ⟨tblG_in (inT8 (List.mem_of_getElem? (i := 196) rfl)) rfl, sel_X12_closesBlock.1, sel_X12_closesBlock.2, rfl⟩
theorem d_X12_closesBlock_0 : decode mX12_closesBlock.2.2.1 0 = .ok (.aload_n 0, 1) := by decide +kernel
theorem d_X12_closesBlock_1 : decode mX12_closesBlock.2.2.1 1 = .ok (.dup, 1) := by decide +kernel
theorem d_X12_closesBlock_2 : decode mX12_closesBlock.2.2.1 2 = .ok (.getfield 146, 3) := by decide +kernel
theorem d_X12_closesBlock_5 : decode mX12_closesBlock.2.2.1 5 = .ok (.iconst 1, 1) := by decide +kernel
theorem d_X12_closesBlock_6 : decode mX12_closesBlock.2.2.1 6 = .ok (.isub, 1) := by decide +kernel
theorem d_X12_closesBlock_7 : decode mX12_closesBlock.2.2.1 7 = .ok (.putfield 146, 3) := by decide +kernel
theorem d_X12_closesBlock_10 : decode mX12_closesBlock.2.2.1 10 = .ok (.aload_n 0, 1) := by decide +kernel
theorem d_X12_closesBlock_11 : decode mX12_closesBlock.2.2.1 11 = .ok (.dup, 1) := by decide +kernel
theorem d_X12_closesBlock_12 : decode mX12_closesBlock.2.2.1 12 = .ok (.getfield 165, 3) := by decide +kernel
theorem d_X12_closesBlock_15 : decode mX12_closesBlock.2.2.1 15 = .ok (.iconst 1, 1) := by decide +kernel
theorem d_X12_closesBlock_16 : decode mX12_closesBlock.2.2.1 16 = .ok (.isub, 1) := by decide +kernel
theorem d_X12_closesBlock_17 : decode mX12_closesBlock.2.2.1 17 = .ok (.putfield 165, 3) := by decide +kernel
theorem d_X12_closesBlock_20 : decode mX12_closesBlock.2.2.1 20 = .ok (.aload_n 0, 1) := by decide +kernel
theorem d_X12_closesBlock_21 : decode mX12_closesBlock.2.2.1 21 = .ok (.getfield 159, 3) := by decide +kernel
theorem d_X12_closesBlock_24 : decode mX12_closesBlock.2.2.1 24 = .ok (.aload_n 0, 1) := by decide +kernel
theorem d_X12_closesBlock_25 : decode mX12_closesBlock.2.2.1 25 = .ok (.getfield 165, 3) := by decide +kernel
theorem d_X12_closesBlock_28 : decode mX12_closesBlock.2.2.1 28 = .ok (.iaload, 1) := by decide +kernel
theorem d_X12_closesBlock_29 : decode mX12_closesBlock.2.2.1 29 = .ok (.istore_n 1, 1) := by decide +kernel
theorem d_X12_closesBlock_30 : decode mX12_closesBlock.2.2.1 30 = .ok (.aload_n 0, 1) := by decide +kernel
theorem d_X12_closesBlock_31 : decode mX12_closesBlock.2.2.1 31 = .ok (.getfield 162, 3) := by decide +kernel
theorem d_X12_closesBlock_34 : decode mX12_closesBlock.2.2.1 34 = .ok (.aload_n 0, 1) := by decide +kernel
theorem d_X12_closesBlock_35 : decode mX12_closesBlock.2.2.1 35 = .ok (.getfield 165, 3) := by decide +kernel
theorem d_X12_closesBlock_38 : decode mX12_closesBlock.2.2.1 38 = .ok (.iaload, 1) := by decide +kernel
theorem d_X12_closesBlock_39 : decode mX12_closesBlock.2.2.1 39 = .ok (.istore_n 2, 1) := by decide +kernel
theorem d_X12_closesBlock_40 : decode mX12_closesBlock.2.2.1 40 = .ok (.aload_n 0, 1) := by decide +kernel
theorem d_X12_closesBlock_41 : decode mX12_closesBlock.2.2.1 41 = .ok (.invokevirtual 396, 3) := by decide +kernel
theorem d_X12_closesBlock_44 : decode mX12_closesBlock.2.2.1 44 = .ok (.aload_n 0, 1) := by decide +kernel
theorem d_X12_closesBlock_45 : decode mX12_closesBlock.2.2.1 45 = .ok (.getfield 36, 3) := by decide +kernel
theorem d_X12_closesBlock_48 : decode mX12_closesBlock.2.2.1 48 = .ok (.ifCond .le 4, 3) := by decide +kernel
theorem d_X12_closesBlock_52 : decode mX12_closesBlock.2.2.1 52 = .ok (.iload_n 1, 1) := by decide +kernel
theorem d_X12_closesBlock_53 : decode mX12_closesBlock.2.2.1 53 = .ok (.iconst 2, 1) := by decide +kernel
theorem d_X12_closesBlock_54 : decode mX12_closesBlock.2.2.1 54 = .ok (.if_icmp .ne 24, 3) := by decide +kernel
theorem d_X12_closesBlock_57 : decode mX12_closesBlock.2.2.1 57 = .ok (.aload_n 0, 1) := by decide +kernel
theorem d_X12_closesBlock_58 : decode mX12_closesBlock.2.2.1 58 = .ok (.getfield 112, 3) := by decide +kernel
theorem d_X12_closesBlock_61 : decode mX12_closesBlock.2.2.1 61 = .ok (.aload_n 0, 1) := by decide +kernel
theorem d_X12_closesBlock_62 : decode mX12_closesBlock.2.2.1 62 = .ok (.iconst 0, 1) := by decide +kernel
theorem d_X12_closesBlock_63 : decode mX12_closesBlock.2.2.1 63 = .ok (.iconst (-1), 1) := by decide +kernel
theorem d_X12_closesBlock_64 : decode mX12_closesBlock.2.2.1 64 = .ok (.invokevirtual 531, 3) := by decide +kernel
theorem d_X12_closesBlock_67 : decode mX12_closesBlock.2.2.1 67 = .ok (.iload_n 2, 1) := by decide +kernel
theorem d_X12_closesBlock_68 : decode mX12_closesBlock.2.2.1 68 = .ok (.sipush 200, 3) := by decide +kernel
theorem d_X12_closesBlock_71 : decode mX12_closesBlock.2.2.1 71 = .ok (.aload_n 0, 1) := by decide +kernel
theorem d_X12_closesBlock_72 : decode mX12_closesBlock.2.2.1 72 = .ok (.getfield 124, 3) := by decide +kernel
theorem d_X12_closesBlock_75 : decode mX12_closesBlock.2.2.1 75 = .ok (.imul, 1) := by decide +kernel
theorem d_X12_closesBlock_76 : decode mX12_closesBlock.2.2.1 76 = .ok (.isub, 1) := by decide +kernel
theorem d_X12_closesBlock_77 : decode mX12_closesBlock.2.2.1 77 = .ok (.iastore, 1) := by decide +kernel
theorem d_X12_closesBlock_51 : decode mX12_closesBlock.2.2.1 51 = .ok (.return_, 1) := by decide +kernel
theorem d_X12_closesBlock_78 : decode mX12_closesBlock.2.2.1 78 = .ok (.iload_n 1, 1) := by decide +kernel
theorem d_X12_closesBlock_79 : decode mX12_closesBlock.2.2.1 79 = .ok (.ifCond .ne 46, 3) := by decide +kernel
theorem d_X12_closesBlock_82 : decode mX12_closesBlock.2.2.1 82 = .ok (.aload_n 0, 1) := by decide +kernel
theorem d_X12_closesBlock_83 : decode mX12_closesBlock.2.2.1 83 = .ok (.ldc2_w 433, 3) := by decide +kernel
theorem d_X12_closesBlock_86 : decode mX12_closesBlock.2.2.1 86 = .ok (.invokevirtual 484, 3) := by decide +kernel
theorem d_X12_closesBlock_89 : decode mX12_closesBlock.2.2.1 89 = .ok (.ifCond .eq 36, 3) := by decide +kernel
theorem d_X12_closesBlock_92 : decode mX12_closesBlock.2.2.1 92 = .ok (.aload_n 0, 1) := by decide +kernel
theorem d_X12_closesBlock_93 : decode mX12_closesBlock.2.2.1 93 = .ok (.iconst 0, 1) := by decide +kernel
theorem d_X12_closesBlock_94 : decode mX12_closesBlock.2.2.1 94 = .ok (.iconst (-1), 1) := by decide +kernel
theorem d_X12_closesBlock_95 : decode mX12_closesBlock.2.2.1 95 = .ok (.invokevirtual 531, 3) := by decide +kernel
theorem d_X12_closesBlock_98 : decode mX12_closesBlock.2.2.1 98 = .ok (.istore_n 3, 1) := by decide +kernel
theorem d_X12_closesBlock_99 : decode mX12_closesBlock.2.2.1 99 = .ok (.aload_n 0, 1) := by decide +kernel
theorem d_X12_closesBlock_100 : decode mX12_closesBlock.2.2.1 100 = .ok (.getfield 112, 3) := by decide +kernel
theorem d_X12_closesBlock_103 : decode mX12_closesBlock.2.2.1 103 = .ok (.iload_n 2, 1) := by decide +kernel
theorem d_X12_closesBlock_104 : decode mX12_closesBlock.2.2.1 104 = .ok (.aload_n 0, 1) := by decide +kernel
theorem d_X12_closesBlock_105 : decode mX12_closesBlock.2.2.1 105 = .ok (.getfield 94, 3) := by decide +kernel
theorem d_X12_closesBlock_108 : decode mX12_closesBlock.2.2.1 108 = .ok (.aload_n 0, 1) := by decide +kernel
theorem d_X12_closesBlock_109 : decode mX12_closesBlock.2.2.1 109 = .ok (.getfield 124, 3) := by decide +kernel
theorem d_X12_closesBlock_112 : decode mX12_closesBlock.2.2.1 112 = .ok (.iaload, 1) := by decide +kernel
theorem d_X12_closesBlock_113 : decode mX12_closesBlock.2.2.1 113 = .ok (.iastore, 1) := by decide +kernel
theorem d_X12_closesBlock_114 : decode mX12_closesBlock.2.2.1 114 = .ok (.aload_n 0, 1) := by decide +kernel
theorem d_X12_closesBlock_115 : decode mX12_closesBlock.2.2.1 115 = .ok (.invokevirtual 396, 3) := by decide +kernel
theorem d_X12_closesBlock_118 : decode mX12_closesBlock.2.2.1 118 = .ok (.aload_n 0, 1) := by decide +kernel
theorem d_X12_closesBlock_119 : decode mX12_closesBlock.2.2.1 119 = .ok (.iconst 1, 1) := by decide +kernel
theorem d_X12_closesBlock_120 : decode mX12_closesBlock.2.2.1 120 = .ok (.iload_n 3, 1) := by decide +kernel
theorem d_X12_closesBlock_121 : decode mX12_closesBlock.2.2.1 121 = .ok (.invokevirtual 534, 3) := by decide +kernel
theorem d_X12_closesBlock_124 : decode mX12_closesBlock.2.2.1 124 = .ok (.return_, 1) := by decide +kernel
theorem d_X12_closesBlock_125 : decode mX12_closesBlock.2.2.1 125 = .ok (.aload_n 0, 1) := by decide +kernel
theorem d_X12_closesBlock_126 : decode mX12_closesBlock.2.2.1 126 = .ok (.getfield 112, 3) := by decide +kernel
theorem d_X12_closesBlock_129 : decode mX12_closesBlock.2.2.1 129 = .ok (.iload_n 2, 1) := by decide +kernel
theorem d_X12_closesBlock_130 : decode mX12_closesBlock.2.2.1 130 = .ok (.aload_n 0, 1) := by decide +kernel
theorem d_X12_closesBlock_131 : decode mX12_closesBlock.2.2.1 131 = .ok (.getfield 94, 3) := by decide +kernel
theorem d_X12_closesBlock_134 : decode mX12_closesBlock.2.2.1 134 = .ok (.aload_n 0, 1) := by decide +kernel
theorem d_X12_closesBlock_135 : decode mX12_closesBlock.2.2.1 135 = .ok (.getfield 124, 3) := by decide +kernel
theorem d_X12_closesBlock_138 : decode mX12_closesBlock.2.2.1 138 = .ok (.iaload, 1) := by decide +kernel
theorem d_X12_closesBlock_139 : decode mX12_closesBlock.2.2.1 139 = .ok (.iastore, 1) := by decide +kernel
theorem d_X12_closesBlock_140 : decode mX12_closesBlock.2.2.1 140 = .ok (.return_, 1) := by decide +kernel
theorem ok_X12_closesBlock : e_m mX12_closesBlock 0 := ⟨tblG_in (inT8 (List.mem_of_getElem? (i := 199) rfl)) rfl, plainFor_of_name (by decide), rfl, ini_12, by decide +kernel, by decide⟩
theorem d_X12_text_224 : decode mX12_text.2.2.1 224 = .ok (.goto (-41), 3) := by decide +kernel
end
/-! 35m.model -/
section
/-! the model: depth of a SUM's or TEST's codes, ranks of places, TAILS -/
theorem lshr_z (a b : Int) : (-9223372036854775808 ≤ f_lshr a b ∧ f_lshr a b ≤ 9223372036854775807) ∧ (a ≠ 0 ∨ f_lshr a b = 0) := by
  refine ⟨i64_b _, ?_⟩
  by_cases c : a = 0
  · subst c
    refine Or.inr ?_
    unfold f_lshr
    show BitVec.toInt _ = 0
    rw [Int64.toBitVec_shiftRight]
    show (BitVec.sshiftRight' (BitVec.ofInt 64 0) _).toInt = 0
    simp [BitVec.sshiftRight']
  · exact Or.inl c
theorem lshl_z (a b : Int) : (-9223372036854775808 ≤ f_lshl a b ∧ f_lshl a b ≤ 9223372036854775807) ∧ (a ≠ 0 ∨ f_lshl a b = 0) := by
  refine ⟨i64_b _, ?_⟩
  by_cases c : a = 0
  · subst c
    refine Or.inr ?_
    unfold f_lshl
    show BitVec.toInt _ = 0
    rw [Int64.toBitVec_shiftLeft]
    show BitVec.toInt ((BitVec.ofInt 64 0) <<< (_ : BitVec 64)) = 0
    simp
  · exact Or.inl c
theorem lor_z (a : Int) {b : Int} (h : -9223372036854775808 ≤ b ∧ b ≤ 9223372036854775807) : (-9223372036854775808 ≤ f_lor a b ∧ f_lor a b ≤ 9223372036854775807) ∧ (a ≠ 0 ∨ f_lor a b = b) := by
  refine ⟨i64_b _, ?_⟩
  by_cases c : a = 0
  · subst c
    refine Or.inr ?_
    unfold f_lor
    have e : (Int64.ofInt 0 ||| Int64.ofInt b) = Int64.ofInt b := by
      rw [← Int64.toBitVec_inj, Int64.toBitVec_or]
      show BitVec.ofInt 64 0 ||| _ = _
      simp
    rw [e, i64_t, w64_id h]
  · exact Or.inl c
def dl (o : Int) : Int := if o ≤ 5 then 1 else if o = 18 then 0 else -1
theorem dl_c (o : Int) : (o ≤ 5 ∧ dl o = 1) ∨ (o = 18 ∧ dl o = 0) ∨ (5 < o ∧ o ≠ 18 ∧ dl o = -1) := by
  unfold dl
  split
  · omega
  · split <;> omega
def dp (M : Mem) (s : Int) : Nat → Int
  | 0 => 0
  | n + 1 => dp M s n + dl (rd M 143 (s + n))
theorem dp_le (M : Mem) (s : Int) (n : Nat) : dp M s n ≤ n := by
  induction n with
  | zero => exact Int.le_refl 0
  | succ n ih =>
    have := dl_c (rd M 143 (s + n))
    rw [dp]
    omega
theorem dp_of {M M2 : Mem} (h : ∀ j : Int, rd M2 143 j = rd M 143 j) (s : Int) (n : Nat) : dp M2 s n = dp M s n := by
  induction n with
  | zero => rfl
  | succ n ih => rw [dp, dp, ih, h]
def psf (M : Mem) (s : Int) (n : Nat) : Prop := ∀ i : Nat, i < n → (5 < rd M 143 (s + i) → 1 ≤ dp M s i) ∧ (5 < rd M 143 (s + i) → rd M 143 (s + i) ≠ 18 → 2 ≤ dp M s i)
theorem psf.of {M M2 : Mem} {s : Int} {n : Nat} (h : psf M s n) (h8 : ∀ j : Int, rd M2 143 j = rd M 143 j) : psf M2 s n := fun i hi => by
  rw [h8, dp_of h8]
  exact h i hi
def rkf (d a : Int) : Int := if d = 0 then 201 - a else 0
theorem rkf_b (d : Int) {a : Int} (h0 : 0 ≤ a) (h1 : a ≤ 200) : 0 ≤ rkf d a ∧ rkf d a ≤ 201 := by
  unfold rkf
  split <;> omega
def DT (M0 M : Mem) (k : Int) : Prop := ∀ p : Int, 0 ≤ p → rd M 158 p ≤ rd M0 158 p ∧ (k ≤ p → rd M 158 p = rd M0 158 p) ∧ (p < k → rd M0 156 p = 0 → 1 ≤ rd M0 158 p → rd M 158 p ≤ rd M0 158 p - 1)
theorem DT.fr {M0 M M2 : Mem} {k : Int} (h : DT M0 M k) (e : ∀ p : Int, rd M2 158 p = rd M 158 p) : DT M0 M2 k := fun p p0 => by
  rw [e]
  exact h p p0
theorem dt_skip {M0 M : Mem} {k : Int} (h : DT M0 M k) (_ : 0 ≤ k) (hc : rd M0 156 k = 0 → rd M0 158 k ≤ 0) : DT M0 M (k + 1) := fun p p0 => by
  have h1 := h p p0
  refine ⟨h1.1, fun c => h1.2.1 (by omega), fun c c2 c3 => ?_⟩
  by_cases e : p = k
  · subst e
    have := hc c2
    omega
  · exact h1.2.2 (by omega) c2 c3
theorem dt_dec {M0 M M' : Mem} {k : Int} (h : DT M0 M k) (w : Wr M 158 k (rd M 158 k - 1) M') : DT M0 M' (k + 1) := fun p p0 => by
  have h1 := h p p0
  by_cases e : p = k
  · subst e
    rw [w.1]
    have h2 := h1.2.1 (Int.le_refl _)
    exact ⟨by omega, fun c => by omega, fun _ _ _ => by omega⟩
  · rw [w.2 _ _ (fun d => e d.2)]
    exact ⟨h1.1, fun c => h1.2.1 (by omega), fun c => h1.2.2 (by omega)⟩
def DE (b : Int) (M0 M : Mem) : Prop := ∃ k : Int, rd M0 126 b ≤ k ∧ DT M0 M k
theorem DE.fr {b : Int} {M0 M M2 : Mem} (h : DE b M0 M) (e : ∀ p : Int, rd M2 158 p = rd M 158 p) : DE b M0 M2 := ⟨h.choose, h.choose_spec.1, h.choose_spec.2.fr e⟩
theorem dt_end {b B : Int} {M0 M : Mem} (h : DE b M0 M) (e1 : rd M 126 b = rd M0 126 b) (e2 : ∀ p : Int, rd M 156 p = rd M0 156 p) (B1 : 1 ≤ B) (hB : ∀ p : Int, 0 ≤ p → p < rd M0 126 b → rd M0 156 p = 0 → rd M0 158 p ≤ B) : ∀ p : Int, 0 ≤ p → p < rd M 126 b → rd M 156 p = 0 → rd M 158 p ≤ B - 1 := by
  obtain ⟨k, hk, hd⟩ := h
  intro p p0 p1 p2
  rw [e1] at p1
  rw [e2] at p2
  have h1 := hd p p0
  have h2 := hB p p0 p1 p2
  by_cases c : 1 ≤ rd M0 158 p
  · have := h1.2.2 (by omega) p2 c
    omega
  · omega
theorem floor_q (a b : Int) : (-9223372036854775808 ≤ w64 (a.tdiv b) ∧ w64 (a.tdiv b) ≤ 9223372036854775807) ∧ (b ≠ 1000 ∨ ((0 ≤ a ∧ w64 (a.tdiv b) = a / 1000) ∨ (a < 0 ∧ w64 (a.tdiv b) = -(-a / 1000))) ∨ (a < -9223372036854775808 ∨ 9223372036854775807 < a)) := by
  refine ⟨w64_b _, ?_⟩
  by_cases c : b = 1000
  · subst c
    by_cases r : a < -9223372036854775808 ∨ 9223372036854775807 < a
    · exact Or.inr (Or.inr r)
    · refine Or.inr (Or.inl ?_)
      by_cases d : 0 ≤ a
      · refine Or.inl ⟨d, ?_⟩
        rw [Int.tdiv_eq_ediv_of_nonneg d, w64_id (by omega)]
      · refine Or.inr ⟨by omega, ?_⟩
        have e : a.tdiv 1000 = -((-a) / 1000) := by
          have h1 : (-a).tdiv 1000 = (-a) / 1000 := Int.tdiv_eq_ediv_of_nonneg (by omega)
          rw [Int.neg_tdiv] at h1
          omega
        rw [e, w64_id (by omega)]
  · exact Or.inl c
theorem floor_q2 {a b : Int} (h : -9223372036854775808 ≤ a ∧ a ≤ 9223372036854775807) : (-9223372036854775808 ≤ w64 (a.tdiv b) ∧ w64 (a.tdiv b) ≤ 9223372036854775807) ∧ (b ≠ 1000 ∨ ((0 ≤ a ∧ w64 (a.tdiv b) = a / 1000) ∨ (a < 0 ∧ w64 (a.tdiv b) = -(-a / 1000)))) := by
  have h1 := floor_q a b
  refine ⟨h1.1, ?_⟩
  rcases h1.2 with h2 | h2 | h2
  · exact Or.inl h2
  · exact Or.inr h2
  · omega
theorem floor_r (a b : Int) (h : -9223372036854775808 ≤ a ∧ a ≤ 9223372036854775807) : (-9223372036854775808 ≤ a.tmod b ∧ a.tmod b ≤ 9223372036854775807) ∧ (b ≠ 1000 ∨ (a.tmod b = 0 ↔ a % 1000 = 0)) := by
  refine ⟨rem64_b a b h, ?_⟩
  by_cases c : b = 1000
  · subst c
    refine Or.inr ?_
    by_cases d : 0 ≤ a
    · rw [Int.tmod_eq_emod_of_nonneg d]
    · have h1 : (-a).tmod 1000 = (-a) % 1000 := Int.tmod_eq_emod_of_nonneg (by omega)
      rw [Int.neg_tmod] at h1
      omega
  · exact Or.inl c
theorem sub1_p {q b : Int} (h : b ≠ 1000 ∨ (-9223372036854775808 < q ∧ q ≤ 9223372036854775807)) : (-9223372036854775808 ≤ w64 (q - 1) ∧ w64 (q - 1) ≤ 9223372036854775807) ∧ (b ≠ 1000 ∨ w64 (q - 1) = q - 1) := by
  refine ⟨w64_b _, ?_⟩
  rcases h with h | h
  · exact Or.inl h
  · exact Or.inr (w64_id (by omega))
theorem wk_b {d2 p r j S : Int} (h : (5 < r → 1 ≤ p) ∧ (5 < r → r ≠ 18 → 2 ≤ p) ∧ d2 = p + dl r ∧ p ≤ j - S ∧ ((r ≤ 5 ∧ dl r = 1) ∨ (r = 18 ∧ dl r = 0) ∨ (5 < r ∧ r ≠ 18 ∧ dl r = -1))) (h0 : 0 ≤ p) (hS : 0 ≤ S) (hj : j ≤ 899) : (r ≤ 5 → p + 1 = d2 ∧ 0 ≤ p + 1 ∧ p + 1 ≤ 900) ∧ (r = 18 → p = d2 ∧ 0 ≤ p ∧ p ≤ 900) ∧ (5 < r → r ≠ 18 → p - 1 = d2 ∧ 0 ≤ p - 1 ∧ p - 1 ≤ 900) := by
  obtain ⟨h1, h2, h3, h4, h5⟩ := h
  refine ⟨fun c => ?_, fun c => ?_, fun c c2 => ?_⟩
  · rcases h5 with h5 | h5 | h5 <;> omega
  · rcases h5 with h5 | h5 | h5 <;> omega
  · have h6 := h2 c c2
    rcases h5 with h5 | h5 | h5 <;> omega
theorem w32_z {x : Int} (h : -4294967296 < x) (h2 : x < 4294967296) : (-2147483648 ≤ w32 x ∧ w32 x ≤ 2147483647) ∧ (w32 x ≠ 0 ∨ x = 0) := by
  unfold w32
  omega
theorem mul1000 (f : Int) : (-9223372036854775808 ≤ w64 (1000 * f) ∧ w64 (1000 * f) ≤ 9223372036854775807) ∧ w64 (1000 * f) % 18446744073709551616 = (1000 * f) % 18446744073709551616 := by
  refine ⟨w64_b _, ?_⟩
  unfold w64
  omega
theorem sub1000 {x v f : Int} (h : v % 18446744073709551616 = (1000 * f) % 18446744073709551616) (h2 : 1000 * f ≤ x ∧ x < 1000 * f + 1000) : 0 ≤ w64 (x - v) ∧ w64 (x - v) ≤ 999 := by
  unfold w64
  omega
/-! the model: what is known of a text that was taken (bank 0), what holds in a run over it -/
def Tb0 (M : Mem) : Prop := ∀ p : Int, 0 ≤ p → p < rd M 126 0 → rd M 158 p ≤ 50
theorem Tb0.of {M M2 : Mem} (h : Tb0 M) (h0 : ∀ j : Int, rd M2 158 j = rd M 158 j) (h1 : rd M2 126 0 = rd M 126 0) : Tb0 M2 := fun p p0 p1 => by
  rw [h0]
  exact h p p0 (by rw [← h1]; exact p1)
theorem Tb0_wr {M : Mem} {i v : Int} (h : Tb0 M) (hv : 0 ≤ i → i < rd M 126 0 → v ≤ 50) : Tb0 (wr M 158 i v) := fun p p0 p1 => by
  have e9 : rd (wr M 158 i v) 126 0 = rd M 126 0 := rd_wn M (fun d => absurd d.1 (by decide))
  rw [e9] at p1
  rw [rd_wr]
  split
  · rename_i c
    exact hv (by omega) (by omega)
  · exact h p p0 p1
def Bk0 (M : Mem) : Prop := (∀ p : Int, 0 ≤ p → p < rd M 126 0 → rd M 131 (0 + 6 * p + 5) ≤ 50)
  ∧ (∀ k : Int, 0 ≤ k → k < rd M 136 0 → rd M 137 (0 + k) = 0 → k < rd M 142 (0 + k) ∨ rd M 137 (0 + rd M 142 (0 + k)) ≠ 0)
  ∧ (∀ k : Int, 0 ≤ k → k < rd M 136 0 → 0 ≤ rd M 139 (0 + k)) ∧ (∀ k : Int, 0 ≤ k → k < rd M 136 0 → rd M 137 (0 + k) ≠ 0 → 0 ≤ rd M 138 (0 + k))
  ∧ (1 ≤ rd M 124 0 ∧ 1 ≤ rd M 123 0 ∧ rd M 123 0 ≤ 8) ∧ ∀ k : Int, 0 ≤ k → k < rd M 136 0 → psf M (0 + rd M 140 (0 + k)) (rd M 141 (0 + k) - rd M 140 (0 + k)).toNat
theorem Bk0.of {M M2 : Mem} (h : Bk0 M) (h1 : ∀ j : Int, rd M2 131 j = rd M 131 j) (h2 : ∀ j : Int, rd M2 137 j = rd M 137 j) (h3 : ∀ j : Int, rd M2 138 j = rd M 138 j) (h4 : ∀ j : Int, rd M2 139 j = rd M 139 j) (h5 : ∀ j : Int, rd M2 140 j = rd M 140 j) (h6 : ∀ j : Int, rd M2 141 j = rd M 141 j) (h7 : ∀ j : Int, rd M2 142 j = rd M 142 j) (h8 : ∀ j : Int, rd M2 143 j = rd M 143 j) (g1 : rd M2 126 0 = rd M 126 0) (g2 : rd M2 136 0 = rd M 136 0) (g3 : rd M2 123 0 = rd M 123 0) (g4 : rd M2 124 0 = rd M 124 0) : Bk0 M2 := by
  obtain ⟨a1, a2, a3, a4, a5, a6⟩ := h
  refine ⟨fun p p0 p1 => ?_, fun k k0 k1 kd => ?_, fun k k0 k1 => ?_, fun k k0 k1 kd => ?_, ?_, fun k k0 k1 => ?_⟩
  · rw [h1]; exact a1 p p0 (by rw [← g1]; exact p1)
  · rw [h2] at kd ⊢; rw [h7]; exact a2 k k0 (by rw [← g2]; exact k1) kd
  · rw [h4]; exact a3 k k0 (by rw [← g2]; exact k1)
  · rw [h2] at kd; rw [h3]; exact a4 k k0 (by rw [← g2]; exact k1) kd
  · rw [g3, g4]; exact a5
  · rw [h5, h6]; exact (a6 k k0 (by rw [← g2]; exact k1)).of h8
theorem Bk0_rt {M : Mem} {p k i : Int} (h : Bk0 M) (hi : i = 0 + 6 * p + k) (h0 : 0 ≤ p) : k ≠ 5 ∨ rd M 126 0 ≤ p ∨ rd M 131 i ≤ 50 := by
  by_cases c : k = 5 ∧ p < rd M 126 0
  · refine Or.inr (Or.inr ?_)
    rw [hi, c.1]
    exact h.1 p h0 c.2
  · omega
theorem Bk0_wt {M : Mem} {i : Int} (h : Bk0 M) (h0 : 0 ≤ i) (h1 : i < 0 + rd M 136 0) : 0 ≤ rd M 139 i := by
  have := h.2.2.1 (i - 0) (by omega) (by omega)
  rw [show 0 + (i - 0) = i by omega] at this
  exact this
theorem Bk0_ln {M : Mem} {i : Int} (h : Bk0 M) (h0 : 0 ≤ i) (h1 : i < 0 + rd M 136 0) (hd : rd M 137 i ≠ 0) : 0 ≤ rd M 138 i := by
  have := h.2.2.2.1 (i - 0) (by omega) (by omega)
  rw [show 0 + (i - 0) = i by omega] at this
  exact this hd
theorem Bk0_jm {M : Mem} {k g : Int} (h : Bk0 M) (h0 : 0 ≤ k) (h1 : k < rd M 136 0) (hd : rd M 137 (0 + k) = 0) (hg : rd M 142 (0 + k) = g) : rkf (rd M 137 (0 + g)) g + 1 ≤ rkf (rd M 137 (0 + k)) k ∨ 200 < g ∨ g < 0 ∨ 200 < k := by
  have h2 := h.2.1 k h0 h1 hd
  rw [hg] at h2
  unfold rkf
  rw [if_pos hd]
  split
  · rename_i c
    rcases h2 with h2 | h2
    · omega
    · exact absurd c h2
  · omega
theorem Bk0_wf {M : Mem} {i j : Int} (h : Bk0 M) (h0 : 0 ≤ i) (h1 : i < 0 + rd M 136 0) (h2 : 0 + rd M 140 i ≤ j) (h3 : j < 0 + rd M 141 i) : (5 < rd M 143 j → 1 ≤ dp M (0 + rd M 140 i) (j - (0 + rd M 140 i)).toNat) ∧ (5 < rd M 143 j → rd M 143 j ≠ 18 → 2 ≤ dp M (0 + rd M 140 i) (j - (0 + rd M 140 i)).toNat) ∧ dp M (0 + rd M 140 i) (j + 1 - (0 + rd M 140 i)).toNat = dp M (0 + rd M 140 i) (j - (0 + rd M 140 i)).toNat + dl (rd M 143 j) ∧ dp M (0 + rd M 140 i) (j - (0 + rd M 140 i)).toNat ≤ j - (0 + rd M 140 i) ∧ ((rd M 143 j ≤ 5 ∧ dl (rd M 143 j) = 1) ∨ (rd M 143 j = 18 ∧ dl (rd M 143 j) = 0) ∨ (5 < rd M 143 j ∧ rd M 143 j ≠ 18 ∧ dl (rd M 143 j) = -1)) := by
  have h4 := h.2.2.2.2.2 (i - 0) (by omega) (by omega)
  rw [show 0 + (i - 0) = i by omega] at h4
  obtain ⟨n, hn⟩ : ∃ n : Nat, (j - (0 + rd M 140 i)).toNat = n := ⟨_, rfl⟩
  have e1 : 0 + rd M 140 i + (n : Int) = j := by omega
  have h5 := h4 n (by omega)
  rw [e1] at h5
  rw [show (j + 1 - (0 + rd M 140 i)).toNat = n + 1 by omega, hn]
  refine ⟨h5.1, h5.2, by rw [dp, e1], ?_, dl_c _⟩
  have := dp_le M (0 + rd M 140 i) n
  omega
/-! the model: what is known of a text that was taken (bank 1), what holds in a run over it -/
def Tb1 (M : Mem) : Prop := ∀ p : Int, 0 ≤ p → p < rd M 126 1 → rd M 158 p ≤ 50
theorem Tb1.of {M M2 : Mem} (h : Tb1 M) (h0 : ∀ j : Int, rd M2 158 j = rd M 158 j) (h1 : rd M2 126 1 = rd M 126 1) : Tb1 M2 := fun p p0 p1 => by
  rw [h0]
  exact h p p0 (by rw [← h1]; exact p1)
theorem Tb1_wr {M : Mem} {i v : Int} (h : Tb1 M) (hv : 0 ≤ i → i < rd M 126 1 → v ≤ 50) : Tb1 (wr M 158 i v) := fun p p0 p1 => by
  have e9 : rd (wr M 158 i v) 126 1 = rd M 126 1 := rd_wn M (fun d => absurd d.1 (by decide))
  rw [e9] at p1
  rw [rd_wr]
  split
  · rename_i c
    exact hv (by omega) (by omega)
  · exact h p p0 p1
def Bk1 (M : Mem) : Prop := (∀ p : Int, 0 ≤ p → p < rd M 126 1 → rd M 131 (36 + 6 * p + 5) ≤ 50)
  ∧ (∀ k : Int, 0 ≤ k → k < rd M 136 1 → rd M 137 (200 + k) = 0 → k < rd M 142 (200 + k) ∨ rd M 137 (200 + rd M 142 (200 + k)) ≠ 0)
  ∧ (∀ k : Int, 0 ≤ k → k < rd M 136 1 → 0 ≤ rd M 139 (200 + k)) ∧ (∀ k : Int, 0 ≤ k → k < rd M 136 1 → rd M 137 (200 + k) ≠ 0 → 0 ≤ rd M 138 (200 + k))
  ∧ (1 ≤ rd M 124 1 ∧ 1 ≤ rd M 123 1 ∧ rd M 123 1 ≤ 8) ∧ ∀ k : Int, 0 ≤ k → k < rd M 136 1 → psf M (900 + rd M 140 (200 + k)) (rd M 141 (200 + k) - rd M 140 (200 + k)).toNat
theorem Bk1.of {M M2 : Mem} (h : Bk1 M) (h1 : ∀ j : Int, rd M2 131 j = rd M 131 j) (h2 : ∀ j : Int, rd M2 137 j = rd M 137 j) (h3 : ∀ j : Int, rd M2 138 j = rd M 138 j) (h4 : ∀ j : Int, rd M2 139 j = rd M 139 j) (h5 : ∀ j : Int, rd M2 140 j = rd M 140 j) (h6 : ∀ j : Int, rd M2 141 j = rd M 141 j) (h7 : ∀ j : Int, rd M2 142 j = rd M 142 j) (h8 : ∀ j : Int, rd M2 143 j = rd M 143 j) (g1 : rd M2 126 1 = rd M 126 1) (g2 : rd M2 136 1 = rd M 136 1) (g3 : rd M2 123 1 = rd M 123 1) (g4 : rd M2 124 1 = rd M 124 1) : Bk1 M2 := by
  obtain ⟨a1, a2, a3, a4, a5, a6⟩ := h
  refine ⟨fun p p0 p1 => ?_, fun k k0 k1 kd => ?_, fun k k0 k1 => ?_, fun k k0 k1 kd => ?_, ?_, fun k k0 k1 => ?_⟩
  · rw [h1]; exact a1 p p0 (by rw [← g1]; exact p1)
  · rw [h2] at kd ⊢; rw [h7]; exact a2 k k0 (by rw [← g2]; exact k1) kd
  · rw [h4]; exact a3 k k0 (by rw [← g2]; exact k1)
  · rw [h2] at kd; rw [h3]; exact a4 k k0 (by rw [← g2]; exact k1) kd
  · rw [g3, g4]; exact a5
  · rw [h5, h6]; exact (a6 k k0 (by rw [← g2]; exact k1)).of h8
theorem Bk1_rt {M : Mem} {p k i : Int} (h : Bk1 M) (hi : i = 36 + 6 * p + k) (h0 : 0 ≤ p) : k ≠ 5 ∨ rd M 126 1 ≤ p ∨ rd M 131 i ≤ 50 := by
  by_cases c : k = 5 ∧ p < rd M 126 1
  · refine Or.inr (Or.inr ?_)
    rw [hi, c.1]
    exact h.1 p h0 c.2
  · omega
theorem Bk1_wt {M : Mem} {i : Int} (h : Bk1 M) (h0 : 200 ≤ i) (h1 : i < 200 + rd M 136 1) : 0 ≤ rd M 139 i := by
  have := h.2.2.1 (i - 200) (by omega) (by omega)
  rw [show 200 + (i - 200) = i by omega] at this
  exact this
theorem Bk1_ln {M : Mem} {i : Int} (h : Bk1 M) (h0 : 200 ≤ i) (h1 : i < 200 + rd M 136 1) (hd : rd M 137 i ≠ 0) : 0 ≤ rd M 138 i := by
  have := h.2.2.2.1 (i - 200) (by omega) (by omega)
  rw [show 200 + (i - 200) = i by omega] at this
  exact this hd
theorem Bk1_jm {M : Mem} {k g : Int} (h : Bk1 M) (h0 : 0 ≤ k) (h1 : k < rd M 136 1) (hd : rd M 137 (200 + k) = 0) (hg : rd M 142 (200 + k) = g) : rkf (rd M 137 (200 + g)) g + 1 ≤ rkf (rd M 137 (200 + k)) k ∨ 200 < g ∨ g < 0 ∨ 200 < k := by
  have h2 := h.2.1 k h0 h1 hd
  rw [hg] at h2
  unfold rkf
  rw [if_pos hd]
  split
  · rename_i c
    rcases h2 with h2 | h2
    · omega
    · exact absurd c h2
  · omega
theorem Bk1_wf {M : Mem} {i j : Int} (h : Bk1 M) (h0 : 200 ≤ i) (h1 : i < 200 + rd M 136 1) (h2 : 900 + rd M 140 i ≤ j) (h3 : j < 900 + rd M 141 i) : (5 < rd M 143 j → 1 ≤ dp M (900 + rd M 140 i) (j - (900 + rd M 140 i)).toNat) ∧ (5 < rd M 143 j → rd M 143 j ≠ 18 → 2 ≤ dp M (900 + rd M 140 i) (j - (900 + rd M 140 i)).toNat) ∧ dp M (900 + rd M 140 i) (j + 1 - (900 + rd M 140 i)).toNat = dp M (900 + rd M 140 i) (j - (900 + rd M 140 i)).toNat + dl (rd M 143 j) ∧ dp M (900 + rd M 140 i) (j - (900 + rd M 140 i)).toNat ≤ j - (900 + rd M 140 i) ∧ ((rd M 143 j ≤ 5 ∧ dl (rd M 143 j) = 1) ∨ (rd M 143 j = 18 ∧ dl (rd M 143 j) = 0) ∨ (5 < rd M 143 j ∧ rd M 143 j ≠ 18 ∧ dl (rd M 143 j) = -1)) := by
  have h4 := h.2.2.2.2.2 (i - 200) (by omega) (by omega)
  rw [show 200 + (i - 200) = i by omega] at h4
  obtain ⟨n, hn⟩ : ∃ n : Nat, (j - (900 + rd M 140 i)).toNat = n := ⟨_, rfl⟩
  have e1 : 900 + rd M 140 i + (n : Int) = j := by omega
  have h5 := h4 n (by omega)
  rw [e1] at h5
  rw [show (j + 1 - (900 + rd M 140 i)).toNat = n + 1 by omega, hn]
  refine ⟨h5.1, h5.2, by rw [dp, e1], ?_, dl_c _⟩
  have := dp_le M (900 + rd M 140 i) n
  omega
end
/-! 35p.parser -/
section
/-! the reference's reading of a text: counts over rows, depths, what is kept -/
def ctN (f : Int → Int) : Nat → Int
  | 0 => 0
  | n + 1 => ctN f n + f n
theorem ctN_cg {f g : Int → Int} {n : Nat} (h : ∀ i : Int, 0 ≤ i → i < n → f i = g i) : ctN f n = ctN g n := by
  induction n with
  | zero => rfl
  | succ n ih => rw [ctN, ctN, ih (fun i i0 i1 => h i i0 (by omega)), h n (by omega) (by omega)]
theorem ctN_b {f : Int → Int} (h : ∀ i : Int, 0 ≤ f i ∧ f i ≤ 1) (n : Nat) : 0 ≤ ctN f n ∧ ctN f n ≤ n := by
  induction n with
  | zero => exact ⟨Int.le_refl 0, Int.le_refl 0⟩
  | succ n ih =>
    have := h n
    rw [ctN]
    omega
/-- how many of the first ones of a row are counted: all but 18 of the OPS that wait; 4 of the frames; all but 1 of the BLOCKS -/
def ctV (x j e a b : Int) (M : Mem) : Int := ctN (fun i => if rd M x i = e then a else b) (rd M 120 j).toNat
abbrev nbv : Mem → Int := ctV 150 46 18 0 1
abbrev n4v : Mem → Int := ctV 145 43 4 1 0
abbrev nwv : Mem → Int := ctV 151 50 1 0 1
theorem ctV_of {x j e a b : Int} {M M2 : Mem} (h0 : ∀ i : Int, rd M2 x i = rd M x i) (h1 : rd M2 120 j = rd M 120 j) : ctV x j e a b M2 = ctV x j e a b M := by
  unfold ctV
  rw [h1]
  exact ctN_cg fun i _ _ => by rw [h0]
theorem nbv_of {M M2 : Mem} (h0 : ∀ i : Int, rd M2 150 i = rd M 150 i) (h1 : rd M2 120 46 = rd M 120 46) : nbv M2 = nbv M := ctV_of h0 h1
theorem n4v_of {M M2 : Mem} (h0 : ∀ i : Int, rd M2 145 i = rd M 145 i) (h1 : rd M2 120 43 = rd M 120 43) : n4v M2 = n4v M := ctV_of h0 h1
theorem nwv_of {M M2 : Mem} (h0 : ∀ i : Int, rd M2 151 i = rd M 151 i) (h1 : rd M2 120 50 = rd M 120 50) : nwv M2 = nwv M := ctV_of h0 h1
theorem ctV_b {x j e a b : Int} (ha : 0 ≤ a ∧ a ≤ 1) (hb : 0 ≤ b ∧ b ≤ 1) (M : Mem) : 0 ≤ ctV x j e a b M ∧ ctV x j e a b M ≤ (rd M 120 j).toNat := ctN_b (fun i => by split <;> assumption) _
theorem nbv_b {M : Mem} (h : Iv M) : 0 ≤ nbv M ∧ nbv M ≤ 500 := by
  have h1 := ctV_b (x := 150) (j := 46) (e := 18) (a := 0) (b := 1) (by omega) (by omega) M
  have h2 := ir_120_46 h
  exact ⟨h1.1, Int.le_trans h1.2 (by omega)⟩
theorem n4v_b {M : Mem} (h : Iv M) : 0 ≤ n4v M ∧ n4v M ≤ 20 := by
  have h1 := ctV_b (x := 145) (j := 43) (e := 4) (a := 1) (b := 0) (by omega) (by omega) M
  have h2 := ir_120_43 h
  exact ⟨h1.1, Int.le_trans h1.2 (by omega)⟩
theorem nwv_b {M : Mem} (h : Iv M) : 0 ≤ nwv M ∧ nwv M ≤ 20 := by
  have h1 := ctV_b (x := 151) (j := 50) (e := 1) (a := 0) (b := 1) (by omega) (by omega) M
  have h2 := ir_120_50 h
  exact ⟨h1.1, Int.le_trans h1.2 (by omega)⟩
/-- one more is counted -/
theorem ct_push {x j e a b n v : Int} {M M2 : Mem} (h : rd M 120 j = n) (h2 : rd M2 120 j = n + 1) (hv : rd M2 x n = v) (ho : ∀ i : Int, i ≠ n → rd M2 x i = rd M x i) (hn : 0 ≤ n) : (v = e ∧ ctV x j e a b M2 = ctV x j e a b M + a) ∨ (v ≠ e ∧ ctV x j e a b M2 = ctV x j e a b M + b) := by
  obtain ⟨k, rfl⟩ : ∃ k : Nat, n = k := ⟨n.toNat, by omega⟩
  have e1 : ctV x j e a b M2 = ctV x j e a b M + (if v = e then a else b) := by
    unfold ctV
    rw [h, h2, show ((k : Int) + 1).toNat = k + 1 by omega, ctN, hv, Int.toNat_natCast]
    congr 1
    exact ctN_cg fun i _ i1 => by rw [ho i (by omega)]
  by_cases c : v = e
  · rw [if_pos c] at e1; exact Or.inl ⟨c, e1⟩
  · rw [if_neg c] at e1; exact Or.inr ⟨c, e1⟩
/-- one less is counted -/
theorem ct_pop {x j e a b n : Int} {M M2 : Mem} (h : rd M 120 j = n) (h2 : rd M2 120 j = n - 1) (ho : ∀ i : Int, rd M2 x i = rd M x i) (hn : 1 ≤ n) : (rd M2 x (n - 1) = e ∧ ctV x j e a b M = ctV x j e a b M2 + a) ∨ (rd M2 x (n - 1) ≠ e ∧ ctV x j e a b M = ctV x j e a b M2 + b) :=
  ct_push (M := M2) (M2 := M) h2 (by rw [h]; omega) (ho _).symm (fun i _ => (ho i).symm) (by omega)
theorem ct_zero {x j e a b : Int} {M : Mem} (h : rd M 120 j = 0) : ctV x j e a b M = 0 := by
  unfold ctV
  rw [h]
  rfl
/-- the frame on top becomes 4 -/
theorem n4_set {d : Int} {M M2 : Mem} (w : Wr M 145 (d - 1) 4 M2) (h : rd M 120 43 = d) (h1 : 1 ≤ d) (h4 : rd M 145 (d - 1) ≠ 4) : n4v M2 = n4v M + 1 := by
  obtain ⟨k, hk⟩ : ∃ k : Nat, d = (k : Int) + 1 := ⟨(d - 1).toNat, by omega⟩
  subst hk
  have h2 : rd M2 120 43 = (k : Int) + 1 := (w.2 _ _ (fun c => absurd c.1 (by decide))).trans h
  have e0 : (k : Int) + 1 - 1 = k := by omega
  rw [e0] at w h4
  show ctV _ _ _ _ _ _ = ctV _ _ _ _ _ _ + 1
  unfold ctV
  rw [h, h2, show ((k : Int) + 1).toNat = k + 1 by omega, ctN, ctN, w.1, if_pos rfl, if_neg h4, ctN_cg (g := fun i => if rd M 145 i = 4 then 1 else 0) fun i _ i1 => by rw [w.2 _ _ (fun c => by have := c.2; omega)]]
  omega
def fr0 (M : Mem) : Int := rd M 145 0
theorem fr0_of {M M2 : Mem} (h0 : ∀ i : Int, rd M2 145 i = rd M 145 i) : fr0 M2 = fr0 M := h0 0
theorem fr0_b {M : Mem} (h : Iv M) : 0 ≤ fr0 M ∧ fr0 M ≤ 5 := ar_145 h 0
theorem fr0_w {M M2 : Mem} {j v : Int} (w : Wr M 145 j v M2) : (j = 0 ∧ fr0 M2 = v) ∨ (j ≠ 0 ∧ fr0 M2 = fr0 M) := by
  by_cases c : j = 0
  · subst c
    exact Or.inl ⟨rfl, w.1⟩
  · exact Or.inr ⟨c, w.2 _ _ (fun d => c d.2.symm)⟩
theorem dp_ag {M M2 : Mem} {s : Int} {n : Nat} (a : ∀ i : Int, s ≤ i → i < s + n → rd M2 143 i = rd M 143 i) : dp M2 s n = dp M s n := by
  induction n with
  | zero => rfl
  | succ n ih => rw [dp, dp, ih (fun i i0 i1 => a i i0 (by omega)), a _ (by omega) (by omega)]
theorem psf.ag {M M2 : Mem} {s : Int} {n : Nat} (h : psf M s n) (a : ∀ i : Int, s ≤ i → i < s + n → rd M2 143 i = rd M 143 i) : psf M2 s n := fun i hi => by
  rw [a _ (by omega) (by omega), dp_ag (n := i) (fun j j0 j1 => a j j0 (by omega))]
  exact h i hi
theorem psf.lt {M : Mem} {s : Int} {n k : Nat} (h : psf M s n) (hk : k ≤ n) : psf M s k := fun i hi => h i (by omega)
theorem psf_0 (M : Mem) (s : Int) {n : Nat} (hn : n = 0) : psf M s n := fun i hi => by omega
theorem dp_lo (M : Mem) (s : Int) (n : Nat) : -(n : Int) ≤ dp M s n := by
  induction n with
  | zero => exact Int.le_refl 0
  | succ n ih =>
    have := dl_c (rd M 143 (s + n))
    rw [dp]
    omega

def Pm0 (M : Mem) : Prop := Bk1 M ∧ (∀ p : Int, 0 ≤ p → p < rd M 126 0 → rd M 131 (0 + 6 * p + 5) ≤ 50)
  ∧ (∀ k : Int, 0 ≤ k → k < rd M 136 0 → rd M 137 (0 + k) = 0 → k < rd M 142 (0 + k) ∨ rd M 137 (0 + rd M 142 (0 + k)) ≠ 0)
  ∧ (∀ k : Int, 0 ≤ k → k < rd M 136 0 → rd M 120 8 = 0 → 0 ≤ rd M 139 (0 + k)) ∧ (∀ k : Int, 0 ≤ k → k < rd M 136 0 → rd M 137 (0 + k) ≠ 0 → 0 ≤ rd M 138 (0 + k))
  ∧ (rd M 120 8 = 0 → 1 ≤ rd M 124 0 ∧ 1 ≤ rd M 123 0 ∧ rd M 123 0 ≤ 8)
  ∧ (∀ k : Int, 0 ≤ k → k < rd M 136 0 → rd M 141 (0 + k) ≤ rd M 120 36 ∧ psf M (0 + rd M 140 (0 + k)) (rd M 141 (0 + k) - rd M 140 (0 + k)).toNat)
  ∧ (1 ≤ rd M 136 0 → rd M 140 ((-1) + rd M 136 0) ≤ rd M 120 36 ∧ psf M (0 + rd M 140 ((-1) + rd M 136 0)) (rd M 120 36 - rd M 140 ((-1) + rd M 136 0)).toNat)
  ∧ (1 ≤ rd M 136 0 → rd M 137 0 ≠ 0)
  ∧ ∀ i : Int, 0 ≤ i → i < rd M 120 50 → 0 ≤ rd M 152 i ∧ rd M 152 i < 0 + rd M 136 0 ∧ (rd M 151 i ≠ 1 → rd M 137 (rd M 152 i) ≠ 0)
/-- the other bank's text isn't touched by what is written for this one -/
theorem Bk0.ag {M M2 : Mem} (h : Bk0 M) (hV : Iv M) (g1 : rd M2 126 0 = rd M 126 0) (g2 : rd M2 136 0 = rd M 136 0) (g3 : rd M2 123 0 = rd M 123 0) (g4 : rd M2 124 0 = rd M 124 0)
    (a1 : ∀ i : Int, 0 ≤ i → i < 0 + 36 → rd M2 131 i = rd M 131 i) (a2 : ∀ i : Int, 0 ≤ i → i < 0 + 200 → rd M2 137 i = rd M 137 i ∧ rd M2 138 i = rd M 138 i ∧ rd M2 139 i = rd M 139 i ∧ rd M2 140 i = rd M 140 i ∧ rd M2 141 i = rd M 141 i ∧ rd M2 142 i = rd M 142 i) (a3 : ∀ i : Int, 0 ≤ i → i < 0 + 900 → rd M2 143 i = rd M 143 i) : Bk0 M2 := by
  obtain ⟨b1, b2, b3, b4, b5, b6⟩ := h
  have v1 := ir_126_0 hV
  have v2 := ir_136_0 hV
  refine ⟨fun p p0 p1 => ?_, fun k k0 k1 kd => ?_, fun k k0 k1 => ?_, fun k k0 k1 kd => ?_, ?_, fun k k0 k1 => ?_⟩
  · rw [g1] at p1
    rw [a1 _ (by omega) (by omega)]
    exact b1 p p0 p1
  · rw [g2] at k1
    have e := a2 (0 + k) (by omega) (by omega)
    rw [e.1] at kd
    rw [e.2.2.2.2.2]
    have h2 := b2 k k0 k1 kd
    have v3 := ar_142 hV (0 + k)
    by_cases c : k < rd M 142 (0 + k)
    · exact Or.inl c
    · rw [(a2 (0 + rd M 142 (0 + k)) (by omega) (by omega)).1]
      exact h2
  · rw [g2] at k1
    rw [(a2 (0 + k) (by omega) (by omega)).2.2.1]
    exact b3 k k0 k1
  · rw [g2] at k1
    have e := a2 (0 + k) (by omega) (by omega)
    rw [e.1] at kd
    rw [e.2.1]
    exact b4 k k0 k1 kd
  · rw [g3, g4]; exact b5
  · rw [g2] at k1
    have e := a2 (0 + k) (by omega) (by omega)
    have v3 := ar_140 hV (0 + k)
    have v4 := ar_141 hV (0 + k)
    rw [e.2.2.2.1, e.2.2.2.2.1]
    exact (b6 k k0 k1).ag fun i i0 i1 => a3 i (by omega) (by omega)

def Pm1 (M : Mem) : Prop := Bk0 M ∧ (∀ p : Int, 0 ≤ p → p < rd M 126 1 → rd M 131 (36 + 6 * p + 5) ≤ 50)
  ∧ (∀ k : Int, 0 ≤ k → k < rd M 136 1 → rd M 137 (200 + k) = 0 → k < rd M 142 (200 + k) ∨ rd M 137 (200 + rd M 142 (200 + k)) ≠ 0)
  ∧ (∀ k : Int, 0 ≤ k → k < rd M 136 1 → rd M 120 8 = 0 → 0 ≤ rd M 139 (200 + k)) ∧ (∀ k : Int, 0 ≤ k → k < rd M 136 1 → rd M 137 (200 + k) ≠ 0 → 0 ≤ rd M 138 (200 + k))
  ∧ (rd M 120 8 = 0 → 1 ≤ rd M 124 1 ∧ 1 ≤ rd M 123 1 ∧ rd M 123 1 ≤ 8)
  ∧ (∀ k : Int, 0 ≤ k → k < rd M 136 1 → rd M 141 (200 + k) ≤ rd M 120 36 ∧ psf M (900 + rd M 140 (200 + k)) (rd M 141 (200 + k) - rd M 140 (200 + k)).toNat)
  ∧ (1 ≤ rd M 136 1 → rd M 140 (199 + rd M 136 1) ≤ rd M 120 36 ∧ psf M (900 + rd M 140 (199 + rd M 136 1)) (rd M 120 36 - rd M 140 (199 + rd M 136 1)).toNat)
  ∧ (1 ≤ rd M 136 1 → rd M 137 200 ≠ 0)
  ∧ ∀ i : Int, 0 ≤ i → i < rd M 120 50 → 200 ≤ rd M 152 i ∧ rd M 152 i < 200 + rd M 136 1 ∧ (rd M 151 i ≠ 1 → rd M 137 (rd M 152 i) ≠ 0)
/-- the other bank's text isn't touched by what is written for this one -/
theorem Bk1.ag {M M2 : Mem} (h : Bk1 M) (hV : Iv M) (g1 : rd M2 126 1 = rd M 126 1) (g2 : rd M2 136 1 = rd M 136 1) (g3 : rd M2 123 1 = rd M 123 1) (g4 : rd M2 124 1 = rd M 124 1)
    (a1 : ∀ i : Int, 36 ≤ i → i < 36 + 36 → rd M2 131 i = rd M 131 i) (a2 : ∀ i : Int, 200 ≤ i → i < 200 + 200 → rd M2 137 i = rd M 137 i ∧ rd M2 138 i = rd M 138 i ∧ rd M2 139 i = rd M 139 i ∧ rd M2 140 i = rd M 140 i ∧ rd M2 141 i = rd M 141 i ∧ rd M2 142 i = rd M 142 i) (a3 : ∀ i : Int, 900 ≤ i → i < 900 + 900 → rd M2 143 i = rd M 143 i) : Bk1 M2 := by
  obtain ⟨b1, b2, b3, b4, b5, b6⟩ := h
  have v1 := ir_126_1 hV
  have v2 := ir_136_1 hV
  refine ⟨fun p p0 p1 => ?_, fun k k0 k1 kd => ?_, fun k k0 k1 => ?_, fun k k0 k1 kd => ?_, ?_, fun k k0 k1 => ?_⟩
  · rw [g1] at p1
    rw [a1 _ (by omega) (by omega)]
    exact b1 p p0 p1
  · rw [g2] at k1
    have e := a2 (200 + k) (by omega) (by omega)
    rw [e.1] at kd
    rw [e.2.2.2.2.2]
    have h2 := b2 k k0 k1 kd
    have v3 := ar_142 hV (200 + k)
    by_cases c : k < rd M 142 (200 + k)
    · exact Or.inl c
    · rw [(a2 (200 + rd M 142 (200 + k)) (by omega) (by omega)).1]
      exact h2
  · rw [g2] at k1
    rw [(a2 (200 + k) (by omega) (by omega)).2.2.1]
    exact b3 k k0 k1
  · rw [g2] at k1
    have e := a2 (200 + k) (by omega) (by omega)
    rw [e.1] at kd
    rw [e.2.1]
    exact b4 k k0 k1 kd
  · rw [g3, g4]; exact b5
  · rw [g2] at k1
    have e := a2 (200 + k) (by omega) (by omega)
    have v3 := ar_140 hV (200 + k)
    have v4 := ar_141 hV (200 + k)
    rw [e.2.2.2.1, e.2.2.2.2.1]
    exact (b6 k k0 k1).ag fun i i0 i1 => a3 i (by omega) (by omega)

theorem Pm0.of {M M2 : Mem} (h : Pm0 M) (h1 : ∀ j : Int, rd M2 131 j = rd M 131 j) (h2 : ∀ j : Int, rd M2 137 j = rd M 137 j) (h3 : ∀ j : Int, rd M2 138 j = rd M 138 j) (h4 : ∀ j : Int, rd M2 139 j = rd M 139 j) (h5 : ∀ j : Int, rd M2 140 j = rd M 140 j) (h6 : ∀ j : Int, rd M2 141 j = rd M 141 j) (h7 : ∀ j : Int, rd M2 142 j = rd M 142 j) (h8 : ∀ j : Int, rd M2 143 j = rd M 143 j) (h9 : ∀ j : Int, rd M2 151 j = rd M 151 j) (h10 : ∀ j : Int, rd M2 152 j = rd M 152 j)
    (g1 : rd M2 126 0 = rd M 126 0) (g2 : rd M2 126 1 = rd M 126 1) (g3 : rd M2 136 0 = rd M 136 0) (g4 : rd M2 136 1 = rd M 136 1) (g5 : rd M2 123 0 = rd M 123 0) (g6 : rd M2 123 1 = rd M 123 1) (g7 : rd M2 124 0 = rd M 124 0) (g8 : rd M2 124 1 = rd M 124 1) (g9 : rd M2 120 8 = rd M 120 8) (g10 : rd M2 120 36 = rd M 120 36) (g11 : rd M2 120 50 = rd M 120 50) : Pm0 M2 := by
  obtain ⟨p0, p1, p2, p3, p4, p5, p6, p7, p8, p9⟩ := h
  refine ⟨p0.of h1 h2 h3 h4 h5 h6 h7 h8 g2 g4 g6 g8, ?_⟩
  simp only [h1, h2, h3, h4, h5, h6, h7, h9, h10, g1, g3, g5, g7, g9, g10, g11]
  exact ⟨p1, p2, p3, p4, p5, fun k k0 k1 => ⟨(p6 k k0 k1).1, (p6 k k0 k1).2.of h8⟩, fun c => ⟨(p7 c).1, (p7 c).2.of h8⟩, p8, p9⟩
/-- all that is looked at agrees; FAULTS may come, CODES may be more behind -/
theorem Pm0.ag {M M2 : Mem} (h : Pm0 M) (hV : Iv M) (hB : Bk1 M2) (g1 : rd M2 126 0 = rd M 126 0) (g2 : rd M2 136 0 = rd M 136 0) (g3 : rd M2 123 0 = rd M 123 0) (g4 : rd M2 124 0 = rd M 124 0) (gf : rd M2 120 8 = 0 → rd M 120 8 = 0) (gc : rd M2 120 36 = rd M 120 36) (gb : 0 ≤ rd M2 120 50 ∧ rd M2 120 50 ≤ rd M 120 50)
    (a1 : ∀ p : Int, 0 ≤ p → p < rd M 126 0 → rd M2 131 (0 + 6 * p + 5) = rd M 131 (0 + 6 * p + 5)) (a2 : ∀ i : Int, 0 ≤ i → i < 0 + rd M 136 0 → rd M2 137 i = rd M 137 i ∧ rd M2 138 i = rd M 138 i ∧ rd M2 139 i = rd M 139 i ∧ rd M2 140 i = rd M 140 i ∧ rd M2 141 i = rd M 141 i ∧ rd M2 142 i = rd M 142 i) (a3 : ∀ j : Int, rd M2 143 j = rd M 143 j)
    (a4 : ∀ i : Int, 0 ≤ i → i < rd M 120 50 → rd M2 151 i = rd M 151 i ∧ rd M2 152 i = rd M 152 i) : Pm0 M2 := by
  obtain ⟨p0, p1, p2, p3, p4, p5, p6, p7, p8, p9⟩ := h
  have v2 := ir_136_0 hV
  refine ⟨hB, fun p q0 q1 => ?_, fun k k0 k1 kd => ?_, fun k k0 k1 kf => ?_, fun k k0 k1 kd => ?_, fun kf => ?_, fun k k0 k1 => ?_, fun k1 => ?_, fun k1 => ?_, fun i i0 i1 => ?_⟩
  · rw [g1] at q1
    rw [a1 p q0 q1]
    exact p1 p q0 q1
  · rw [g2] at k1
    have e := a2 (0 + k) (by omega) (by omega)
    rw [e.1] at kd
    rw [e.2.2.2.2.2]
    have v3 := ar_142 hV (0 + k)
    by_cases c : k < rd M 142 (0 + k)
    · exact Or.inl c
    · rw [(a2 (0 + rd M 142 (0 + k)) (by omega) (by omega)).1]
      exact p2 k k0 k1 kd
  · rw [g2] at k1
    rw [(a2 (0 + k) (by omega) (by omega)).2.2.1]
    exact p3 k k0 k1 (gf kf)
  · rw [g2] at k1
    have e := a2 (0 + k) (by omega) (by omega)
    rw [e.1] at kd
    rw [e.2.1]
    exact p4 k k0 k1 kd
  · rw [g3, g4]; exact p5 (gf kf)
  · rw [g2] at k1
    have e := a2 (0 + k) (by omega) (by omega)
    rw [e.2.2.2.1, e.2.2.2.2.1, gc]
    exact ⟨(p6 k k0 k1).1, (p6 k k0 k1).2.of a3⟩
  · rw [g2] at k1 ⊢
    rw [(a2 ((-1) + rd M 136 0) (by omega) (by omega)).2.2.2.1, gc]
    exact ⟨(p7 k1).1, (p7 k1).2.of a3⟩
  · rw [g2] at k1
    rw [(a2 0 (by omega) (by omega)).1]
    exact p8 k1
  · have e := a4 i i0 (by omega)
    have q := p9 i i0 (by omega)
    rw [e.1, e.2, g2, (a2 (rd M 152 i) q.1 q.2.1).1]
    exact q
theorem Bk1.w1 {M : Mem} (h : Bk1 M) (hV : Iv M) {x i v : Int} (hx : x = 137 ∨ x = 138 ∨ x = 139 ∨ x = 140 ∨ x = 141 ∨ x = 142) (h0 : 0 ≤ i) (h1 : i < 0 + 200) : Bk1 (wr M x i v) :=
  h.ag hV (rd_wn M (fun c => by have := c.1; omega)) (rd_wn M (fun c => by have := c.1; omega)) (rd_wn M (fun c => by have := c.1; omega)) (rd_wn M (fun c => by have := c.1; omega)) (fun j j0 j1 => rd_wn M (fun c => by have := c.1; omega))
    (fun j j0 j1 => ⟨rd_wn M (fun c => by have := c.2; omega), rd_wn M (fun c => by have := c.2; omega), rd_wn M (fun c => by have := c.2; omega), rd_wn M (fun c => by have := c.2; omega), rd_wn M (fun c => by have := c.2; omega), rd_wn M (fun c => by have := c.2; omega)⟩) (fun j j0 j1 => rd_wn M (fun c => by have := c.1; omega))
theorem Bk1.w2 {M : Mem} (h : Bk1 M) {x i v : Int} (hx : (x = 126 ∧ i = 0) ∨ (x = 136 ∧ i = 0) ∨ (x = 123 ∧ i = 0) ∨ (x = 124 ∧ i = 0) ∨ x = 120 ∨ x = 151 ∨ x = 152) : Bk1 (wr M x i v) :=
  h.of (fun j => rd_wn M (fun c => by have := c.1; omega)) (fun j => rd_wn M (fun c => by have := c.1; omega)) (fun j => rd_wn M (fun c => by have := c.1; omega)) (fun j => rd_wn M (fun c => by have := c.1; omega)) (fun j => rd_wn M (fun c => by have := c.1; omega)) (fun j => rd_wn M (fun c => by have := c.1; omega)) (fun j => rd_wn M (fun c => by have := c.1; omega)) (fun j => rd_wn M (fun c => by have := c.1; omega)) (rd_wn M (fun c => by have := c.1; have := c.2; omega)) (rd_wn M (fun c => by have := c.1; have := c.2; omega)) (rd_wn M (fun c => by have := c.1; have := c.2; omega)) (rd_wn M (fun c => by have := c.1; have := c.2; omega))
/-- a place behind those that are counted, or what isn't looked at -/
theorem Pm0_free {M : Mem} {x i v : Int} (h : Pm0 M) (hV : Iv M) (hx : x = 137 ∨ x = 138 ∨ x = 139 ∨ x = 140 ∨ x = 141 ∨ x = 142) (h0 : 0 + rd M 136 0 ≤ i) (h1 : i < 0 + 200) : Pm0 (wr M x i v) := by
  have v2 := ir_136_0 hV
  have v3 := ir_120_50 hV
  have n1 : ∀ y j : Int, y ≠ x → rd (wr M x i v) y j = rd M y j := fun y j c => rd_wn M (fun d => c d.1)
  refine h.ag hV (h.1.w1 hV hx (by omega) h1) (n1 _ _ (by omega)) (n1 _ _ (by omega)) (n1 _ _ (by omega)) (n1 _ _ (by omega)) (fun c => by rw [n1 _ _ (by omega)] at c; exact c) (n1 _ _ (by omega)) (by rw [n1 _ _ (by omega)]; omega) (fun p _ _ => n1 _ _ (by omega)) (fun j j0 j1 => ?_) (fun j => n1 _ _ (by omega)) (fun j _ _ => ⟨n1 _ _ (by omega), n1 _ _ (by omega)⟩)
  have n2 : ∀ y : Int, rd (wr M x i v) y j = rd M y j := fun y => rd_wn M (fun d => by have := d.2; omega)
  exact ⟨n2 _, n2 _, n2 _, n2 _, n2 _, n2 _⟩
theorem Pm0_fk {M : Mem} {v : Int} (h : Pm0 M) (hV : Iv M) (hv : v ≠ 0) : Pm0 (wr M 120 8 v) := by
  have v3 := ir_120_50 hV
  have n1 : ∀ y j : Int, y ≠ 120 → rd (wr M 120 8 v) y j = rd M y j := fun y j c => rd_wn M (fun d => c d.1)
  have n2 : ∀ j : Int, j ≠ 8 → rd (wr M 120 8 v) 120 j = rd M 120 j := fun j c => rd_wn M (fun d => c d.2)
  exact h.ag hV (h.1.w2 (by omega)) (n1 _ _ (by omega)) (n1 _ _ (by omega)) (n1 _ _ (by omega)) (n1 _ _ (by omega)) (fun c => absurd ((rd_ws M 120 8 v).symm.trans c) hv) (n2 _ (by decide)) (by rw [n2 _ (by decide)]; omega) (fun p _ _ => n1 _ _ (by omega)) (fun j _ _ => ⟨n1 _ _ (by omega), n1 _ _ (by omega), n1 _ _ (by omega), n1 _ _ (by omega), n1 _ _ (by omega), n1 _ _ (by omega)⟩) (fun j => n1 _ _ (by omega)) (fun j _ _ => ⟨n1 _ _ (by omega), n1 _ _ (by omega)⟩)
theorem Pm0_blm {M : Mem} {v : Int} (h : Pm0 M) (hV : Iv M) (h0 : 0 ≤ v) (hv : v ≤ rd M 120 50) : Pm0 (wr M 120 50 v) := by
  have n1 : ∀ y j : Int, y ≠ 120 → rd (wr M 120 50 v) y j = rd M y j := fun y j c => rd_wn M (fun d => c d.1)
  have n2 : ∀ j : Int, j ≠ 50 → rd (wr M 120 50 v) 120 j = rd M 120 j := fun j c => rd_wn M (fun d => c d.2)
  exact h.ag hV (h.1.w2 (by omega)) (n1 _ _ (by omega)) (n1 _ _ (by omega)) (n1 _ _ (by omega)) (n1 _ _ (by omega)) (fun c => by rw [n2 _ (by decide)] at c; exact c) (n2 _ (by decide)) (by rw [rd_ws]; exact ⟨h0, hv⟩) (fun p _ _ => n1 _ _ (by omega)) (fun j _ _ => ⟨n1 _ _ (by omega), n1 _ _ (by omega), n1 _ _ (by omega), n1 _ _ (by omega), n1 _ _ (by omega), n1 _ _ (by omega)⟩) (fun j => n1 _ _ (by omega)) (fun j _ _ => ⟨n1 _ _ (by omega), n1 _ _ (by omega)⟩)
theorem Pm0_rate {M : Mem} {i v : Int} (h : Pm0 M) (hV : Iv M) (h0 : 0 + 6 * rd M 126 0 ≤ i) (h1 : i < 0 + 36) : Pm0 (wr M 131 i v) := by
  have v1 := ir_126_0 hV
  have v3 := ir_120_50 hV
  have n1 : ∀ y j : Int, y ≠ 131 → rd (wr M 131 i v) y j = rd M y j := fun y j c => rd_wn M (fun d => c d.1)
  refine h.ag hV (h.1.ag hV (n1 _ _ (by omega)) (n1 _ _ (by omega)) (n1 _ _ (by omega)) (n1 _ _ (by omega)) (fun j j0 j1 => rd_wn M (fun c => by have := c.2; omega)) (fun j _ _ => ⟨n1 _ _ (by omega), n1 _ _ (by omega), n1 _ _ (by omega), n1 _ _ (by omega), n1 _ _ (by omega), n1 _ _ (by omega)⟩) (fun j _ _ => n1 _ _ (by omega))) (n1 _ _ (by omega)) (n1 _ _ (by omega)) (n1 _ _ (by omega)) (n1 _ _ (by omega)) (fun c => by rw [n1 _ _ (by omega)] at c; exact c) (n1 _ _ (by omega)) (by rw [n1 _ _ (by omega)]; omega) (fun p p0 p1 => rd_wn M (fun c => by have := c.2; omega)) (fun j _ _ => ⟨n1 _ _ (by omega), n1 _ _ (by omega), n1 _ _ (by omega), n1 _ _ (by omega), n1 _ _ (by omega), n1 _ _ (by omega)⟩) (fun j => n1 _ _ (by omega)) (fun j _ _ => ⟨n1 _ _ (by omega), n1 _ _ (by omega)⟩)
theorem Pm0_blk {M : Mem} {x i v : Int} (h : Pm0 M) (hV : Iv M) (hx : x = 151 ∨ x = 152) (h0 : rd M 120 50 ≤ i) : Pm0 (wr M x i v) := by
  have v3 := ir_120_50 hV
  have n1 : ∀ y j : Int, y ≠ x → rd (wr M x i v) y j = rd M y j := fun y j c => rd_wn M (fun d => c d.1)
  exact h.ag hV (h.1.w2 (by omega)) (n1 _ _ (by omega)) (n1 _ _ (by omega)) (n1 _ _ (by omega)) (n1 _ _ (by omega)) (fun c => by rw [n1 _ _ (by omega)] at c; exact c) (n1 _ _ (by omega)) (by rw [n1 _ _ (by omega)]; omega) (fun p _ _ => n1 _ _ (by omega)) (fun j _ _ => ⟨n1 _ _ (by omega), n1 _ _ (by omega), n1 _ _ (by omega), n1 _ _ (by omega), n1 _ _ (by omega), n1 _ _ (by omega)⟩) (fun j => n1 _ _ (by omega)) (fun j j0 j1 => ⟨rd_wn M (fun c => by have := c.2; omega), rd_wn M (fun c => by have := c.2; omega)⟩)
/-- one component changes: the others are as they were -/
theorem Pm0_parts {M : Mem} {v : Int} (h : Pm0 M) (hv : v = rd M 126 0 + 1) (h5 : rd M 131 (0 + 6 * rd M 126 0 + 5) ≤ 50) : Pm0 (wr M 126 0 v) := by
  have n1 : ∀ y j : Int, y ≠ 126 → rd (wr M 126 0 v) y j = rd M y j := fun y j c => rd_wn M (fun d => c d.1)
  obtain ⟨p0, p1, p2, p3, p4, p5, p6, p7, p8, p9⟩ := h
  refine ⟨p0.w2 (by omega), fun p q0 q1 => ?_, ?_⟩
  · rw [rd_ws] at q1
    rw [n1 _ _ (by omega)]
    by_cases c : p = rd M 126 0
    · rw [c]; exact h5
    · exact p1 p q0 (by omega)
  · simp only [n1 136 _ (by decide), n1 137 _ (by decide), n1 142 _ (by decide), n1 139 _ (by decide), n1 138 _ (by decide), n1 120 _ (by decide), n1 124 _ (by decide), n1 123 _ (by decide), n1 141 _ (by decide), n1 140 _ (by decide), n1 152 _ (by decide), n1 151 _ (by decide)]
    exact ⟨p2, p3, p4, p5, fun k k0 k1 => ⟨(p6 k k0 k1).1, (p6 k k0 k1).2.of fun j => n1 _ _ (by decide)⟩, fun c => ⟨(p7 c).1, (p7 c).2.of fun j => n1 _ _ (by decide)⟩, p8, p9⟩
theorem Pm0_cache {M : Mem} {x v : Int} (h : Pm0 M) (hx : x = 123 ∨ x = 124) (hv : rd M 120 8 = 0 → 1 ≤ v ∧ v ≤ 8) : Pm0 (wr M x 0 v) := by
  have n1 : ∀ y j : Int, y ≠ x → rd (wr M x 0 v) y j = rd M y j := fun y j c => rd_wn M (fun d => c d.1)
  obtain ⟨p0, p1, p2, p3, p4, p5, p6, p7, p8, p9⟩ := h
  have m1 : (126 : Int) ≠ x ∧ (131 : Int) ≠ x ∧ (136 : Int) ≠ x ∧ (137 : Int) ≠ x ∧ (142 : Int) ≠ x ∧ (139 : Int) ≠ x ∧ (138 : Int) ≠ x ∧ (120 : Int) ≠ x ∧ (141 : Int) ≠ x ∧ (140 : Int) ≠ x ∧ (152 : Int) ≠ x ∧ (151 : Int) ≠ x ∧ (143 : Int) ≠ x := by omega
  refine ⟨p0.w2 (by omega), ?_⟩
  simp only [n1 126 _ m1.1, n1 131 _ m1.2.1, n1 136 _ m1.2.2.1, n1 137 _ m1.2.2.2.1, n1 142 _ m1.2.2.2.2.1, n1 139 _ m1.2.2.2.2.2.1, n1 138 _ m1.2.2.2.2.2.2.1, n1 120 _ m1.2.2.2.2.2.2.2.1, n1 141 _ m1.2.2.2.2.2.2.2.2.1, n1 140 _ m1.2.2.2.2.2.2.2.2.2.1, n1 152 _ m1.2.2.2.2.2.2.2.2.2.2.1, n1 151 _ m1.2.2.2.2.2.2.2.2.2.2.2.1]
  refine ⟨p1, p2, p3, p4, fun kf => ?_, fun k k0 k1 => ⟨(p6 k k0 k1).1, (p6 k k0 k1).2.of fun j => n1 _ _ m1.2.2.2.2.2.2.2.2.2.2.2.2⟩, fun c => ⟨(p7 c).1, (p7 c).2.of fun j => n1 _ _ m1.2.2.2.2.2.2.2.2.2.2.2.2⟩, p8, p9⟩
  have q := p5 kf
  have q2 := hv kf
  rcases hx with rfl | rfl
  · rw [rd_ws, n1 124 _ (by decide)]
    omega
  · rw [rd_ws, n1 123 _ (by decide)]
    omega
theorem Pm0_what {M : Mem} {i v : Int} (h : Pm0 M) (hV : Iv M) (h0 : 0 ≤ i) (h1 : i < 0 + 200) (hv : rd M 120 8 = 0 → 0 ≤ v) : Pm0 (wr M 139 i v) := by
  have n1 : ∀ y j : Int, y ≠ 139 → rd (wr M 139 i v) y j = rd M y j := fun y j c => rd_wn M (fun d => c d.1)
  obtain ⟨p0, p1, p2, p3, p4, p5, p6, p7, p8, p9⟩ := h
  refine ⟨p0.w1 hV (by omega) h0 h1, ?_⟩
  simp only [n1 126 _ (by decide), n1 131 _ (by decide), n1 136 _ (by decide), n1 137 _ (by decide), n1 142 _ (by decide), n1 138 _ (by decide), n1 120 _ (by decide), n1 124 _ (by decide), n1 123 _ (by decide), n1 141 _ (by decide), n1 140 _ (by decide), n1 152 _ (by decide), n1 151 _ (by decide)]
  refine ⟨p1, p2, fun k k0 k1 kf => ?_, p4, p5, fun k k0 k1 => ⟨(p6 k k0 k1).1, (p6 k k0 k1).2.of fun j => n1 _ _ (by decide)⟩, fun c => ⟨(p7 c).1, (p7 c).2.of fun j => n1 _ _ (by decide)⟩, p8, p9⟩
  rw [rd_wr]
  split
  · exact hv kf
  · exact p3 k k0 k1 kf
theorem Pm0_goes {M : Mem} {i v : Int} (h : Pm0 M) (hV : Iv M) (h0 : 0 ≤ i) (h1 : i < 0 + 200) (hv : i - 0 < v ∨ rd M 137 (0 + v) ≠ 0 ∨ rd M 137 i ≠ 0) : Pm0 (wr M 142 i v) := by
  have n1 : ∀ y j : Int, y ≠ 142 → rd (wr M 142 i v) y j = rd M y j := fun y j c => rd_wn M (fun d => c d.1)
  obtain ⟨p0, p1, p2, p3, p4, p5, p6, p7, p8, p9⟩ := h
  refine ⟨p0.w1 hV (by omega) h0 h1, ?_⟩
  simp only [n1 126 _ (by decide), n1 131 _ (by decide), n1 136 _ (by decide), n1 137 _ (by decide), n1 139 _ (by decide), n1 138 _ (by decide), n1 120 _ (by decide), n1 124 _ (by decide), n1 123 _ (by decide), n1 141 _ (by decide), n1 140 _ (by decide), n1 152 _ (by decide), n1 151 _ (by decide)]
  refine ⟨p1, fun k k0 k1 kd => ?_, p3, p4, p5, fun k k0 k1 => ⟨(p6 k k0 k1).1, (p6 k k0 k1).2.of fun j => n1 _ _ (by decide)⟩, fun c => ⟨(p7 c).1, (p7 c).2.of fun j => n1 _ _ (by decide)⟩, p8, p9⟩
  by_cases c : 0 + k = i
  · rw [c, rd_ws]
    rcases hv with q | q | q
    · exact Or.inl (by omega)
    · exact Or.inr q
    · rw [c] at kd; exact absurd kd q
  · rw [rd_wn M (fun d => c d.2)]
    exact p2 k k0 k1 kd
theorem Pm0_from {M : Mem} {i v : Int} (h : Pm0 M) (hV : Iv M) (hi : i = (-1) + rd M 136 0) (h1 : 1 ≤ rd M 136 0) (hv : v = rd M 120 36) : Pm0 (wr M 140 i v) := by
  have v2 := ir_136_0 hV
  have n1 : ∀ y j : Int, y ≠ 140 → rd (wr M 140 i v) y j = rd M y j := fun y j c => rd_wn M (fun d => c d.1)
  obtain ⟨p0, p1, p2, p3, p4, p5, p6, p7, p8, p9⟩ := h
  refine ⟨p0.w1 hV (by omega) (by omega) (by omega), ?_⟩
  simp only [n1 126 _ (by decide), n1 131 _ (by decide), n1 136 _ (by decide), n1 137 _ (by decide), n1 139 _ (by decide), n1 138 _ (by decide), n1 120 _ (by decide), n1 124 _ (by decide), n1 123 _ (by decide), n1 141 _ (by decide), n1 142 _ (by decide), n1 152 _ (by decide), n1 151 _ (by decide)]
  refine ⟨p1, p2, p3, p4, p5, fun k k0 k1 => ⟨(p6 k k0 k1).1, ?_⟩, fun c => ?_, p8, p9⟩
  · by_cases c : 0 + k = i
    · rw [c, rd_ws]
      have := (p6 k k0 k1).1
      rw [c] at this
      exact psf_0 _ _ (by omega)
    · rw [rd_wn M (fun d => c d.2)]
      exact (p6 k k0 k1).2.of fun j => n1 _ _ (by decide)
  · rw [← hi, rd_ws]
    exact ⟨by omega, psf_0 _ _ (by omega)⟩
theorem Pm0_to {M : Mem} {i v : Int} (h : Pm0 M) (hV : Iv M) (hi : i = (-1) + rd M 136 0) (h1 : 1 ≤ rd M 136 0) (hv : v = rd M 120 36) : Pm0 (wr M 141 i v) := by
  have v2 := ir_136_0 hV
  have n1 : ∀ y j : Int, y ≠ 141 → rd (wr M 141 i v) y j = rd M y j := fun y j c => rd_wn M (fun d => c d.1)
  obtain ⟨p0, p1, p2, p3, p4, p5, p6, p7, p8, p9⟩ := h
  refine ⟨p0.w1 hV (by omega) (by omega) (by omega), ?_⟩
  simp only [n1 126 _ (by decide), n1 131 _ (by decide), n1 136 _ (by decide), n1 137 _ (by decide), n1 139 _ (by decide), n1 138 _ (by decide), n1 120 _ (by decide), n1 124 _ (by decide), n1 123 _ (by decide), n1 140 _ (by decide), n1 142 _ (by decide), n1 152 _ (by decide), n1 151 _ (by decide)]
  refine ⟨p1, p2, p3, p4, p5, fun k k0 k1 => ?_, fun c => ⟨(p7 c).1, (p7 c).2.of fun j => n1 _ _ (by decide)⟩, p8, p9⟩
  by_cases c : 0 + k = i
  · have z := p7 h1
    rw [← hi, ← hv] at z
    rw [c, rd_ws]
    exact ⟨by omega, z.2.of fun j => n1 _ _ (by decide)⟩
  · rw [rd_wn M (fun d => c d.2)]
    exact ⟨(p6 k k0 k1).1, (p6 k k0 k1).2.of fun j => n1 _ _ (by decide)⟩
theorem Pm0_spot {M : Mem} {v kd ln cd : Int} (h : Pm0 M) (hV : Iv M) (hv : v = rd M 136 0 + 1) (e1 : rd M 137 (0 + rd M 136 0) = kd) (e2 : rd M 138 (0 + rd M 136 0) = ln) (e3 : rd M 139 (0 + rd M 136 0) = 0) (e4 : rd M 140 (0 + rd M 136 0) = cd) (e5 : rd M 141 (0 + rd M 136 0) = cd) (e6 : rd M 142 (0 + rd M 136 0) = 0) (ec : rd M 120 36 = cd) (k1 : kd = 0 → 1 ≤ rd M 136 0) (k2 : kd ≠ 0 → 0 ≤ ln) : Pm0 (wr M 136 0 v) := by
  have v2 := ir_136_0 hV
  have n1 : ∀ y j : Int, y ≠ 136 → rd (wr M 136 0 v) y j = rd M y j := fun y j c => rd_wn M (fun d => c d.1)
  obtain ⟨p0, p1, p2, p3, p4, p5, p6, p7, p8, p9⟩ := h
  obtain ⟨sp, hsp⟩ : ∃ sp, rd M 136 0 = sp := ⟨_, rfl⟩
  rw [hsp] at hv e1 e2 e3 e4 e5 e6 k1 p2 p3 p4 p6 p7 p8 p9 v2
  refine ⟨p0.w2 (by omega), ?_⟩
  simp only [n1 126 _ (by decide), n1 131 _ (by decide), n1 137 _ (by decide), n1 142 _ (by decide), n1 139 _ (by decide), n1 138 _ (by decide), n1 120 _ (by decide), n1 124 _ (by decide), n1 123 _ (by decide), n1 141 _ (by decide), n1 140 _ (by decide), n1 152 _ (by decide), n1 151 _ (by decide), rd_ws]
  refine ⟨p1, fun k k0 kl kz => ?_, fun k k0 kl kf => ?_, fun k k0 kl kz => ?_, p5, fun k k0 kl => ?_, fun _ => ?_, fun _ => ?_, fun i i0 i1 => ?_⟩
  · by_cases c : k = sp
    · subst c
      rw [e6]
      refine Or.inr ?_
      rw [show (0 : Int) + 0 = 0 by omega]
      exact p8 (k1 (e1.symm.trans kz))
    · exact p2 k k0 (by omega) kz
  · by_cases c : k = sp
    · subst c; omega
    · exact p3 k k0 (by omega) kf
  · by_cases c : k = sp
    · subst c
      rw [e2]
      exact k2 (fun q => kz (e1.trans q))
    · exact p4 k k0 (by omega) kz
  · by_cases c : k = sp
    · subst c
      rw [e4, e5, ec]
      exact ⟨Int.le_refl _, psf_0 _ _ (by omega)⟩
    · exact ⟨(p6 k k0 (by omega)).1, (p6 k k0 (by omega)).2.of fun j => n1 _ _ (by decide)⟩
  · rw [show (-1) + v = 0 + sp by omega, e4, ec]
    exact ⟨Int.le_refl _, psf_0 _ _ (by omega)⟩
  · by_cases c : 1 ≤ sp
    · exact p8 c
    · have z : sp = 0 := by omega
      rw [z, show (0 : Int) + 0 = 0 by omega] at e1
      intro q
      have := k1 (e1.symm.trans q)
      omega
  · have q := p9 i i0 i1
    exact ⟨q.1, by omega, q.2.2⟩
theorem Pm0_bl {M : Mem} {v n : Int} (h : Pm0 M) (hn : rd M 120 50 = n) (hv : v = n + 1) (h0 : 0 ≤ rd M 152 n) (h1 : rd M 152 n < 0 + rd M 136 0) (h2 : rd M 151 n ≠ 1 → rd M 137 (rd M 152 n) ≠ 0) : Pm0 (wr M 120 50 v) := by
  have n1 : ∀ y j : Int, y ≠ 120 → rd (wr M 120 50 v) y j = rd M y j := fun y j c => rd_wn M (fun d => c d.1)
  have n2 : ∀ j : Int, j ≠ 50 → rd (wr M 120 50 v) 120 j = rd M 120 j := fun j c => rd_wn M (fun d => c d.2)
  obtain ⟨p0, p1, p2, p3, p4, p5, p6, p7, p8, p9⟩ := h
  refine ⟨p0.w2 (by omega), ?_⟩
  simp only [n1 126 _ (by decide), n1 131 _ (by decide), n1 136 _ (by decide), n1 137 _ (by decide), n1 142 _ (by decide), n1 139 _ (by decide), n1 138 _ (by decide), n1 124 _ (by decide), n1 123 _ (by decide), n1 141 _ (by decide), n1 140 _ (by decide), n1 152 _ (by decide), n1 151 _ (by decide), n2 8 (by decide), n2 36 (by decide), rd_ws]
  refine ⟨p1, p2, p3, p4, p5, fun k k0 k1 => ⟨(p6 k k0 k1).1, (p6 k k0 k1).2.of fun j => n1 _ _ (by decide)⟩, fun c => ⟨(p7 c).1, (p7 c).2.of fun j => n1 _ _ (by decide)⟩, p8, fun i i0 i1 => ?_⟩
  by_cases c : i = n
  · subst c
    exact ⟨h0, h1, h2⟩
  · exact p9 i i0 (by omega)
/-- a text begins -/
theorem Pm0_new {M : Mem} (h : Bk1 M) (e1 : rd M 126 0 = 0) (e2 : rd M 136 0 = 0) (e3 : rd M 123 0 = 1) (e4 : rd M 124 0 = 1) (e5 : rd M 120 50 = 0) : Pm0 M := by
  refine ⟨h, fun p p0 p1 => ?_, fun k k0 k1 => ?_, fun k k0 k1 => ?_, fun k k0 k1 => ?_, fun _ => ?_, fun k k0 k1 => ?_, fun k1 => ?_, fun k1 => ?_, fun i i0 i1 => ?_⟩
  all_goals omega
/-- a text was taken -/
theorem Pm0_end {M : Mem} (h : Pm0 M) (hf : rd M 120 8 = 0) : Bk0 M := ⟨h.2.1, h.2.2.1, fun k k0 k1 => h.2.2.2.1 k k0 k1 hf, h.2.2.2.2.1, h.2.2.2.2.2.1 hf, fun k k0 k1 => (h.2.2.2.2.2.2.1 k k0 k1).2⟩
def Dv0 (M : Mem) : Int := dp M (0 + rd M 140 ((-1) + rd M 136 0)) (rd M 120 36 - rd M 140 ((-1) + rd M 136 0)).toNat
theorem Dv0_of {M M2 : Mem} (h0 : ∀ j : Int, rd M2 143 j = rd M 143 j) (h1 : ∀ j : Int, rd M2 140 j = rd M 140 j) (h2 : rd M2 136 0 = rd M 136 0) (h3 : rd M2 120 36 = rd M 120 36) : Dv0 M2 = Dv0 M := by
  unfold Dv0
  rw [h1, h2, h3]
  exact dp_of h0 _ _
theorem Dv0_b {M : Mem} (h : Iv M) : -1000 ≤ Dv0 M ∧ Dv0 M ≤ 1000 := by
  have h1 := ir_120_36 h
  have h2 := ar_140 h ((-1) + rd M 136 0)
  have h3 := dp_le M (0 + rd M 140 ((-1) + rd M 136 0)) (rd M 120 36 - rd M 140 ((-1) + rd M 136 0)).toNat
  have h4 := dp_lo M (0 + rd M 140 ((-1) + rd M 136 0)) (rd M 120 36 - rd M 140 ((-1) + rd M 136 0)).toNat
  unfold Dv0
  omega
theorem Dv0_0 {M : Mem} (h : rd M 140 ((-1) + rd M 136 0) = rd M 120 36) : Dv0 M = 0 := by
  unfold Dv0
  rw [h, Int.sub_self]
  rfl
/-- a code is added: the two rows, then the count -/
theorem Pm0_add {M M1 : Mem} {a w n : Int} (h : Pm0 M) (hV : Iv M) (hn : rd M 120 36 = n) (h9 : n ≤ 899) (hs : 1 ≤ rd M 136 0) (e1 : rd M1 143 (0 + n) = a) (ho : ∀ y j : Int, ¬ (y = 143 ∧ j = 0 + n) → y ≠ 144 → rd M1 y j = rd M y j) (h1 : 5 < a → 1 ≤ Dv0 M) (h2 : 5 < a → a ≠ 18 → 2 ≤ Dv0 M) : Pm0 (wr M1 120 36 (n + 1)) ∧ Dv0 (wr M1 120 36 (n + 1)) = Dv0 M + dl a := by
  have v1 := ir_120_36 hV
  have v2 := ir_136_0 hV
  have nn : ∀ y j : Int, ¬ (y = 143 ∧ j = 0 + n) → y ≠ 144 → ¬ (y = 120 ∧ j = 36) → rd (wr M1 120 36 (n + 1)) y j = rd M y j := fun y j c1 c2 c3 => by rw [rd_wn _ c3, ho y j c1 c2]
  have n1 : ∀ y j : Int, y ≠ 143 → y ≠ 144 → y ≠ 120 → rd (wr M1 120 36 (n + 1)) y j = rd M y j := fun y j c1 c2 c3 => nn y j (fun d => c1 d.1) c2 (fun d => c3 d.1)
  have n2 : ∀ j : Int, j ≠ 36 → rd (wr M1 120 36 (n + 1)) 120 j = rd M 120 j := fun j c => nn _ _ (fun d => absurd d.1 (by decide)) (by decide) (fun d => c d.2)
  have n3 : ∀ j : Int, j ≠ 0 + n → rd (wr M1 120 36 (n + 1)) 143 j = rd M 143 j := fun j c => nn _ _ (fun d => c d.2) (by decide) (fun d => absurd d.1 (by decide))
  have n4 : rd (wr M1 120 36 (n + 1)) 143 (0 + n) = a := by rw [rd_wn _ (fun d => absurd d.1 (by decide)), e1]
  have n5 : rd (wr M1 120 36 (n + 1)) 120 36 = n + 1 := rd_ws _ _ _ _
  obtain ⟨p0, p1, p2, p3, p4, p5, p6, p7, p8, p9⟩ := h
  obtain ⟨q1, q2⟩ := p7 hs
  obtain ⟨cf, hcf⟩ : ∃ cf, rd M 140 ((-1) + rd M 136 0) = cf := ⟨_, rfl⟩
  have v3 := ar_140 hV ((-1) + rd M 136 0)
  have eD : Dv0 M = dp M (0 + cf) (n - cf).toNat := by unfold Dv0; rw [hcf, hn]
  rw [hcf, hn] at q1 q2
  rw [hcf] at v3
  obtain ⟨m, hm⟩ : ∃ m : Nat, (n - cf).toNat = m := ⟨_, rfl⟩
  have hm1 : (n + 1 - cf).toNat = m + 1 := by omega
  have em : 0 + cf + (m : Int) = 0 + n := by omega
  rw [hm] at eD q2
  have dpm : dp (wr M1 120 36 (n + 1)) (0 + cf) m = dp M (0 + cf) m := dp_ag fun i i0 i1 => n3 i (by omega)
  have hD2 : Dv0 (wr M1 120 36 (n + 1)) = Dv0 M + dl a := by
    unfold Dv0
    rw [n1 136 _ (by decide) (by decide) (by decide), n1 140 _ (by decide) (by decide) (by decide), n5, hcf, hm1, dp, em, n4, dpm, hn, hm]
  refine ⟨⟨?_, ?_⟩, hD2⟩
  · exact p0.ag hV (n1 _ _ (by decide) (by decide) (by decide)) (n1 _ _ (by decide) (by decide) (by decide)) (n1 _ _ (by decide) (by decide) (by decide)) (n1 _ _ (by decide) (by decide) (by decide)) (fun j _ _ => n1 _ _ (by decide) (by decide) (by decide)) (fun j _ _ => ⟨n1 _ _ (by decide) (by decide) (by decide), n1 _ _ (by decide) (by decide) (by decide), n1 _ _ (by decide) (by decide) (by decide), n1 _ _ (by decide) (by decide) (by decide), n1 _ _ (by decide) (by decide) (by decide), n1 _ _ (by decide) (by decide) (by decide)⟩) (fun j _ _ => n3 j (by omega))
  · simp only [n1 126 _ (by decide) (by decide) (by decide), n1 131 _ (by decide) (by decide) (by decide), n1 136 _ (by decide) (by decide) (by decide), n1 137 _ (by decide) (by decide) (by decide), n1 142 _ (by decide) (by decide) (by decide), n1 139 _ (by decide) (by decide) (by decide), n1 138 _ (by decide) (by decide) (by decide), n1 124 _ (by decide) (by decide) (by decide), n1 123 _ (by decide) (by decide) (by decide), n1 141 _ (by decide) (by decide) (by decide), n1 140 _ (by decide) (by decide) (by decide), n1 152 _ (by decide) (by decide) (by decide), n1 151 _ (by decide) (by decide) (by decide), n2 8 (by decide), n2 50 (by decide), n5]
    refine ⟨p1, p2, p3, p4, p5, fun k k0 k1 => ?_, fun _ => ?_, p8, p9⟩
    · have z := p6 k k0 k1
      rw [hn] at z
      have v4 := ar_140 hV (0 + k)
      exact ⟨by omega, z.2.ag fun i i0 i1 => n3 i (by omega)⟩
    · rw [hcf, hm1]
      refine ⟨by omega, fun i hi => ?_⟩
      by_cases c : i = m
      · subst c
        rw [em, n4, dpm, ← eD]
        exact ⟨h1, h2⟩
      · rw [n3 _ (by omega), dp_ag (M := M) (fun j j0 j1 => n3 j (by omega))]
        exact q2 i (by omega)

theorem Pm1.of {M M2 : Mem} (h : Pm1 M) (h1 : ∀ j : Int, rd M2 131 j = rd M 131 j) (h2 : ∀ j : Int, rd M2 137 j = rd M 137 j) (h3 : ∀ j : Int, rd M2 138 j = rd M 138 j) (h4 : ∀ j : Int, rd M2 139 j = rd M 139 j) (h5 : ∀ j : Int, rd M2 140 j = rd M 140 j) (h6 : ∀ j : Int, rd M2 141 j = rd M 141 j) (h7 : ∀ j : Int, rd M2 142 j = rd M 142 j) (h8 : ∀ j : Int, rd M2 143 j = rd M 143 j) (h9 : ∀ j : Int, rd M2 151 j = rd M 151 j) (h10 : ∀ j : Int, rd M2 152 j = rd M 152 j)
    (g1 : rd M2 126 0 = rd M 126 0) (g2 : rd M2 126 1 = rd M 126 1) (g3 : rd M2 136 0 = rd M 136 0) (g4 : rd M2 136 1 = rd M 136 1) (g5 : rd M2 123 0 = rd M 123 0) (g6 : rd M2 123 1 = rd M 123 1) (g7 : rd M2 124 0 = rd M 124 0) (g8 : rd M2 124 1 = rd M 124 1) (g9 : rd M2 120 8 = rd M 120 8) (g10 : rd M2 120 36 = rd M 120 36) (g11 : rd M2 120 50 = rd M 120 50) : Pm1 M2 := by
  obtain ⟨p0, p1, p2, p3, p4, p5, p6, p7, p8, p9⟩ := h
  refine ⟨p0.of h1 h2 h3 h4 h5 h6 h7 h8 g1 g3 g5 g7, ?_⟩
  simp only [h1, h2, h3, h4, h5, h6, h7, h9, h10, g2, g4, g6, g8, g9, g10, g11]
  exact ⟨p1, p2, p3, p4, p5, fun k k0 k1 => ⟨(p6 k k0 k1).1, (p6 k k0 k1).2.of h8⟩, fun c => ⟨(p7 c).1, (p7 c).2.of h8⟩, p8, p9⟩
/-- all that is looked at agrees; FAULTS may come, CODES may be more behind -/
theorem Pm1.ag {M M2 : Mem} (h : Pm1 M) (hV : Iv M) (hB : Bk0 M2) (g1 : rd M2 126 1 = rd M 126 1) (g2 : rd M2 136 1 = rd M 136 1) (g3 : rd M2 123 1 = rd M 123 1) (g4 : rd M2 124 1 = rd M 124 1) (gf : rd M2 120 8 = 0 → rd M 120 8 = 0) (gc : rd M2 120 36 = rd M 120 36) (gb : 0 ≤ rd M2 120 50 ∧ rd M2 120 50 ≤ rd M 120 50)
    (a1 : ∀ p : Int, 0 ≤ p → p < rd M 126 1 → rd M2 131 (36 + 6 * p + 5) = rd M 131 (36 + 6 * p + 5)) (a2 : ∀ i : Int, 200 ≤ i → i < 200 + rd M 136 1 → rd M2 137 i = rd M 137 i ∧ rd M2 138 i = rd M 138 i ∧ rd M2 139 i = rd M 139 i ∧ rd M2 140 i = rd M 140 i ∧ rd M2 141 i = rd M 141 i ∧ rd M2 142 i = rd M 142 i) (a3 : ∀ j : Int, rd M2 143 j = rd M 143 j)
    (a4 : ∀ i : Int, 0 ≤ i → i < rd M 120 50 → rd M2 151 i = rd M 151 i ∧ rd M2 152 i = rd M 152 i) : Pm1 M2 := by
  obtain ⟨p0, p1, p2, p3, p4, p5, p6, p7, p8, p9⟩ := h
  have v2 := ir_136_1 hV
  refine ⟨hB, fun p q0 q1 => ?_, fun k k0 k1 kd => ?_, fun k k0 k1 kf => ?_, fun k k0 k1 kd => ?_, fun kf => ?_, fun k k0 k1 => ?_, fun k1 => ?_, fun k1 => ?_, fun i i0 i1 => ?_⟩
  · rw [g1] at q1
    rw [a1 p q0 q1]
    exact p1 p q0 q1
  · rw [g2] at k1
    have e := a2 (200 + k) (by omega) (by omega)
    rw [e.1] at kd
    rw [e.2.2.2.2.2]
    have v3 := ar_142 hV (200 + k)
    by_cases c : k < rd M 142 (200 + k)
    · exact Or.inl c
    · rw [(a2 (200 + rd M 142 (200 + k)) (by omega) (by omega)).1]
      exact p2 k k0 k1 kd
  · rw [g2] at k1
    rw [(a2 (200 + k) (by omega) (by omega)).2.2.1]
    exact p3 k k0 k1 (gf kf)
  · rw [g2] at k1
    have e := a2 (200 + k) (by omega) (by omega)
    rw [e.1] at kd
    rw [e.2.1]
    exact p4 k k0 k1 kd
  · rw [g3, g4]; exact p5 (gf kf)
  · rw [g2] at k1
    have e := a2 (200 + k) (by omega) (by omega)
    rw [e.2.2.2.1, e.2.2.2.2.1, gc]
    exact ⟨(p6 k k0 k1).1, (p6 k k0 k1).2.of a3⟩
  · rw [g2] at k1 ⊢
    rw [(a2 (199 + rd M 136 1) (by omega) (by omega)).2.2.2.1, gc]
    exact ⟨(p7 k1).1, (p7 k1).2.of a3⟩
  · rw [g2] at k1
    rw [(a2 200 (by omega) (by omega)).1]
    exact p8 k1
  · have e := a4 i i0 (by omega)
    have q := p9 i i0 (by omega)
    rw [e.1, e.2, g2, (a2 (rd M 152 i) q.1 q.2.1).1]
    exact q
theorem Bk0.w1 {M : Mem} (h : Bk0 M) (hV : Iv M) {x i v : Int} (hx : x = 137 ∨ x = 138 ∨ x = 139 ∨ x = 140 ∨ x = 141 ∨ x = 142) (h0 : 200 ≤ i) (h1 : i < 200 + 200) : Bk0 (wr M x i v) :=
  h.ag hV (rd_wn M (fun c => by have := c.1; omega)) (rd_wn M (fun c => by have := c.1; omega)) (rd_wn M (fun c => by have := c.1; omega)) (rd_wn M (fun c => by have := c.1; omega)) (fun j j0 j1 => rd_wn M (fun c => by have := c.1; omega))
    (fun j j0 j1 => ⟨rd_wn M (fun c => by have := c.2; omega), rd_wn M (fun c => by have := c.2; omega), rd_wn M (fun c => by have := c.2; omega), rd_wn M (fun c => by have := c.2; omega), rd_wn M (fun c => by have := c.2; omega), rd_wn M (fun c => by have := c.2; omega)⟩) (fun j j0 j1 => rd_wn M (fun c => by have := c.1; omega))
theorem Bk0.w2 {M : Mem} (h : Bk0 M) {x i v : Int} (hx : (x = 126 ∧ i = 1) ∨ (x = 136 ∧ i = 1) ∨ (x = 123 ∧ i = 1) ∨ (x = 124 ∧ i = 1) ∨ x = 120 ∨ x = 151 ∨ x = 152) : Bk0 (wr M x i v) :=
  h.of (fun j => rd_wn M (fun c => by have := c.1; omega)) (fun j => rd_wn M (fun c => by have := c.1; omega)) (fun j => rd_wn M (fun c => by have := c.1; omega)) (fun j => rd_wn M (fun c => by have := c.1; omega)) (fun j => rd_wn M (fun c => by have := c.1; omega)) (fun j => rd_wn M (fun c => by have := c.1; omega)) (fun j => rd_wn M (fun c => by have := c.1; omega)) (fun j => rd_wn M (fun c => by have := c.1; omega)) (rd_wn M (fun c => by have := c.1; have := c.2; omega)) (rd_wn M (fun c => by have := c.1; have := c.2; omega)) (rd_wn M (fun c => by have := c.1; have := c.2; omega)) (rd_wn M (fun c => by have := c.1; have := c.2; omega))
/-- a place behind those that are counted, or what isn't looked at -/
theorem Pm1_free {M : Mem} {x i v : Int} (h : Pm1 M) (hV : Iv M) (hx : x = 137 ∨ x = 138 ∨ x = 139 ∨ x = 140 ∨ x = 141 ∨ x = 142) (h0 : 200 + rd M 136 1 ≤ i) (h1 : i < 200 + 200) : Pm1 (wr M x i v) := by
  have v2 := ir_136_1 hV
  have v3 := ir_120_50 hV
  have n1 : ∀ y j : Int, y ≠ x → rd (wr M x i v) y j = rd M y j := fun y j c => rd_wn M (fun d => c d.1)
  refine h.ag hV (h.1.w1 hV hx (by omega) h1) (n1 _ _ (by omega)) (n1 _ _ (by omega)) (n1 _ _ (by omega)) (n1 _ _ (by omega)) (fun c => by rw [n1 _ _ (by omega)] at c; exact c) (n1 _ _ (by omega)) (by rw [n1 _ _ (by omega)]; omega) (fun p _ _ => n1 _ _ (by omega)) (fun j j0 j1 => ?_) (fun j => n1 _ _ (by omega)) (fun j _ _ => ⟨n1 _ _ (by omega), n1 _ _ (by omega)⟩)
  have n2 : ∀ y : Int, rd (wr M x i v) y j = rd M y j := fun y => rd_wn M (fun d => by have := d.2; omega)
  exact ⟨n2 _, n2 _, n2 _, n2 _, n2 _, n2 _⟩
theorem Pm1_fk {M : Mem} {v : Int} (h : Pm1 M) (hV : Iv M) (hv : v ≠ 0) : Pm1 (wr M 120 8 v) := by
  have v3 := ir_120_50 hV
  have n1 : ∀ y j : Int, y ≠ 120 → rd (wr M 120 8 v) y j = rd M y j := fun y j c => rd_wn M (fun d => c d.1)
  have n2 : ∀ j : Int, j ≠ 8 → rd (wr M 120 8 v) 120 j = rd M 120 j := fun j c => rd_wn M (fun d => c d.2)
  exact h.ag hV (h.1.w2 (by omega)) (n1 _ _ (by omega)) (n1 _ _ (by omega)) (n1 _ _ (by omega)) (n1 _ _ (by omega)) (fun c => absurd ((rd_ws M 120 8 v).symm.trans c) hv) (n2 _ (by decide)) (by rw [n2 _ (by decide)]; omega) (fun p _ _ => n1 _ _ (by omega)) (fun j _ _ => ⟨n1 _ _ (by omega), n1 _ _ (by omega), n1 _ _ (by omega), n1 _ _ (by omega), n1 _ _ (by omega), n1 _ _ (by omega)⟩) (fun j => n1 _ _ (by omega)) (fun j _ _ => ⟨n1 _ _ (by omega), n1 _ _ (by omega)⟩)
theorem Pm1_blm {M : Mem} {v : Int} (h : Pm1 M) (hV : Iv M) (h0 : 0 ≤ v) (hv : v ≤ rd M 120 50) : Pm1 (wr M 120 50 v) := by
  have n1 : ∀ y j : Int, y ≠ 120 → rd (wr M 120 50 v) y j = rd M y j := fun y j c => rd_wn M (fun d => c d.1)
  have n2 : ∀ j : Int, j ≠ 50 → rd (wr M 120 50 v) 120 j = rd M 120 j := fun j c => rd_wn M (fun d => c d.2)
  exact h.ag hV (h.1.w2 (by omega)) (n1 _ _ (by omega)) (n1 _ _ (by omega)) (n1 _ _ (by omega)) (n1 _ _ (by omega)) (fun c => by rw [n2 _ (by decide)] at c; exact c) (n2 _ (by decide)) (by rw [rd_ws]; exact ⟨h0, hv⟩) (fun p _ _ => n1 _ _ (by omega)) (fun j _ _ => ⟨n1 _ _ (by omega), n1 _ _ (by omega), n1 _ _ (by omega), n1 _ _ (by omega), n1 _ _ (by omega), n1 _ _ (by omega)⟩) (fun j => n1 _ _ (by omega)) (fun j _ _ => ⟨n1 _ _ (by omega), n1 _ _ (by omega)⟩)
theorem Pm1_rate {M : Mem} {i v : Int} (h : Pm1 M) (hV : Iv M) (h0 : 36 + 6 * rd M 126 1 ≤ i) (h1 : i < 36 + 36) : Pm1 (wr M 131 i v) := by
  have v1 := ir_126_1 hV
  have v3 := ir_120_50 hV
  have n1 : ∀ y j : Int, y ≠ 131 → rd (wr M 131 i v) y j = rd M y j := fun y j c => rd_wn M (fun d => c d.1)
  refine h.ag hV (h.1.ag hV (n1 _ _ (by omega)) (n1 _ _ (by omega)) (n1 _ _ (by omega)) (n1 _ _ (by omega)) (fun j j0 j1 => rd_wn M (fun c => by have := c.2; omega)) (fun j _ _ => ⟨n1 _ _ (by omega), n1 _ _ (by omega), n1 _ _ (by omega), n1 _ _ (by omega), n1 _ _ (by omega), n1 _ _ (by omega)⟩) (fun j _ _ => n1 _ _ (by omega))) (n1 _ _ (by omega)) (n1 _ _ (by omega)) (n1 _ _ (by omega)) (n1 _ _ (by omega)) (fun c => by rw [n1 _ _ (by omega)] at c; exact c) (n1 _ _ (by omega)) (by rw [n1 _ _ (by omega)]; omega) (fun p p0 p1 => rd_wn M (fun c => by have := c.2; omega)) (fun j _ _ => ⟨n1 _ _ (by omega), n1 _ _ (by omega), n1 _ _ (by omega), n1 _ _ (by omega), n1 _ _ (by omega), n1 _ _ (by omega)⟩) (fun j => n1 _ _ (by omega)) (fun j _ _ => ⟨n1 _ _ (by omega), n1 _ _ (by omega)⟩)
theorem Pm1_blk {M : Mem} {x i v : Int} (h : Pm1 M) (hV : Iv M) (hx : x = 151 ∨ x = 152) (h0 : rd M 120 50 ≤ i) : Pm1 (wr M x i v) := by
  have v3 := ir_120_50 hV
  have n1 : ∀ y j : Int, y ≠ x → rd (wr M x i v) y j = rd M y j := fun y j c => rd_wn M (fun d => c d.1)
  exact h.ag hV (h.1.w2 (by omega)) (n1 _ _ (by omega)) (n1 _ _ (by omega)) (n1 _ _ (by omega)) (n1 _ _ (by omega)) (fun c => by rw [n1 _ _ (by omega)] at c; exact c) (n1 _ _ (by omega)) (by rw [n1 _ _ (by omega)]; omega) (fun p _ _ => n1 _ _ (by omega)) (fun j _ _ => ⟨n1 _ _ (by omega), n1 _ _ (by omega), n1 _ _ (by omega), n1 _ _ (by omega), n1 _ _ (by omega), n1 _ _ (by omega)⟩) (fun j => n1 _ _ (by omega)) (fun j j0 j1 => ⟨rd_wn M (fun c => by have := c.2; omega), rd_wn M (fun c => by have := c.2; omega)⟩)
/-- one component changes: the others are as they were -/
theorem Pm1_parts {M : Mem} {v : Int} (h : Pm1 M) (hv : v = rd M 126 1 + 1) (h5 : rd M 131 (36 + 6 * rd M 126 1 + 5) ≤ 50) : Pm1 (wr M 126 1 v) := by
  have n1 : ∀ y j : Int, y ≠ 126 → rd (wr M 126 1 v) y j = rd M y j := fun y j c => rd_wn M (fun d => c d.1)
  obtain ⟨p0, p1, p2, p3, p4, p5, p6, p7, p8, p9⟩ := h
  refine ⟨p0.w2 (by omega), fun p q0 q1 => ?_, ?_⟩
  · rw [rd_ws] at q1
    rw [n1 _ _ (by omega)]
    by_cases c : p = rd M 126 1
    · rw [c]; exact h5
    · exact p1 p q0 (by omega)
  · simp only [n1 136 _ (by decide), n1 137 _ (by decide), n1 142 _ (by decide), n1 139 _ (by decide), n1 138 _ (by decide), n1 120 _ (by decide), n1 124 _ (by decide), n1 123 _ (by decide), n1 141 _ (by decide), n1 140 _ (by decide), n1 152 _ (by decide), n1 151 _ (by decide)]
    exact ⟨p2, p3, p4, p5, fun k k0 k1 => ⟨(p6 k k0 k1).1, (p6 k k0 k1).2.of fun j => n1 _ _ (by decide)⟩, fun c => ⟨(p7 c).1, (p7 c).2.of fun j => n1 _ _ (by decide)⟩, p8, p9⟩
theorem Pm1_cache {M : Mem} {x v : Int} (h : Pm1 M) (hx : x = 123 ∨ x = 124) (hv : rd M 120 8 = 0 → 1 ≤ v ∧ v ≤ 8) : Pm1 (wr M x 1 v) := by
  have n1 : ∀ y j : Int, y ≠ x → rd (wr M x 1 v) y j = rd M y j := fun y j c => rd_wn M (fun d => c d.1)
  obtain ⟨p0, p1, p2, p3, p4, p5, p6, p7, p8, p9⟩ := h
  have m1 : (126 : Int) ≠ x ∧ (131 : Int) ≠ x ∧ (136 : Int) ≠ x ∧ (137 : Int) ≠ x ∧ (142 : Int) ≠ x ∧ (139 : Int) ≠ x ∧ (138 : Int) ≠ x ∧ (120 : Int) ≠ x ∧ (141 : Int) ≠ x ∧ (140 : Int) ≠ x ∧ (152 : Int) ≠ x ∧ (151 : Int) ≠ x ∧ (143 : Int) ≠ x := by omega
  refine ⟨p0.w2 (by omega), ?_⟩
  simp only [n1 126 _ m1.1, n1 131 _ m1.2.1, n1 136 _ m1.2.2.1, n1 137 _ m1.2.2.2.1, n1 142 _ m1.2.2.2.2.1, n1 139 _ m1.2.2.2.2.2.1, n1 138 _ m1.2.2.2.2.2.2.1, n1 120 _ m1.2.2.2.2.2.2.2.1, n1 141 _ m1.2.2.2.2.2.2.2.2.1, n1 140 _ m1.2.2.2.2.2.2.2.2.2.1, n1 152 _ m1.2.2.2.2.2.2.2.2.2.2.1, n1 151 _ m1.2.2.2.2.2.2.2.2.2.2.2.1]
  refine ⟨p1, p2, p3, p4, fun kf => ?_, fun k k0 k1 => ⟨(p6 k k0 k1).1, (p6 k k0 k1).2.of fun j => n1 _ _ m1.2.2.2.2.2.2.2.2.2.2.2.2⟩, fun c => ⟨(p7 c).1, (p7 c).2.of fun j => n1 _ _ m1.2.2.2.2.2.2.2.2.2.2.2.2⟩, p8, p9⟩
  have q := p5 kf
  have q2 := hv kf
  rcases hx with rfl | rfl
  · rw [rd_ws, n1 124 _ (by decide)]
    omega
  · rw [rd_ws, n1 123 _ (by decide)]
    omega
theorem Pm1_what {M : Mem} {i v : Int} (h : Pm1 M) (hV : Iv M) (h0 : 200 ≤ i) (h1 : i < 200 + 200) (hv : rd M 120 8 = 0 → 0 ≤ v) : Pm1 (wr M 139 i v) := by
  have n1 : ∀ y j : Int, y ≠ 139 → rd (wr M 139 i v) y j = rd M y j := fun y j c => rd_wn M (fun d => c d.1)
  obtain ⟨p0, p1, p2, p3, p4, p5, p6, p7, p8, p9⟩ := h
  refine ⟨p0.w1 hV (by omega) h0 h1, ?_⟩
  simp only [n1 126 _ (by decide), n1 131 _ (by decide), n1 136 _ (by decide), n1 137 _ (by decide), n1 142 _ (by decide), n1 138 _ (by decide), n1 120 _ (by decide), n1 124 _ (by decide), n1 123 _ (by decide), n1 141 _ (by decide), n1 140 _ (by decide), n1 152 _ (by decide), n1 151 _ (by decide)]
  refine ⟨p1, p2, fun k k0 k1 kf => ?_, p4, p5, fun k k0 k1 => ⟨(p6 k k0 k1).1, (p6 k k0 k1).2.of fun j => n1 _ _ (by decide)⟩, fun c => ⟨(p7 c).1, (p7 c).2.of fun j => n1 _ _ (by decide)⟩, p8, p9⟩
  rw [rd_wr]
  split
  · exact hv kf
  · exact p3 k k0 k1 kf
theorem Pm1_goes {M : Mem} {i v : Int} (h : Pm1 M) (hV : Iv M) (h0 : 200 ≤ i) (h1 : i < 200 + 200) (hv : i - 200 < v ∨ rd M 137 (200 + v) ≠ 0 ∨ rd M 137 i ≠ 0) : Pm1 (wr M 142 i v) := by
  have n1 : ∀ y j : Int, y ≠ 142 → rd (wr M 142 i v) y j = rd M y j := fun y j c => rd_wn M (fun d => c d.1)
  obtain ⟨p0, p1, p2, p3, p4, p5, p6, p7, p8, p9⟩ := h
  refine ⟨p0.w1 hV (by omega) h0 h1, ?_⟩
  simp only [n1 126 _ (by decide), n1 131 _ (by decide), n1 136 _ (by decide), n1 137 _ (by decide), n1 139 _ (by decide), n1 138 _ (by decide), n1 120 _ (by decide), n1 124 _ (by decide), n1 123 _ (by decide), n1 141 _ (by decide), n1 140 _ (by decide), n1 152 _ (by decide), n1 151 _ (by decide)]
  refine ⟨p1, fun k k0 k1 kd => ?_, p3, p4, p5, fun k k0 k1 => ⟨(p6 k k0 k1).1, (p6 k k0 k1).2.of fun j => n1 _ _ (by decide)⟩, fun c => ⟨(p7 c).1, (p7 c).2.of fun j => n1 _ _ (by decide)⟩, p8, p9⟩
  by_cases c : 200 + k = i
  · rw [c, rd_ws]
    rcases hv with q | q | q
    · exact Or.inl (by omega)
    · exact Or.inr q
    · rw [c] at kd; exact absurd kd q
  · rw [rd_wn M (fun d => c d.2)]
    exact p2 k k0 k1 kd
theorem Pm1_from {M : Mem} {i v : Int} (h : Pm1 M) (hV : Iv M) (hi : i = 199 + rd M 136 1) (h1 : 1 ≤ rd M 136 1) (hv : v = rd M 120 36) : Pm1 (wr M 140 i v) := by
  have v2 := ir_136_1 hV
  have n1 : ∀ y j : Int, y ≠ 140 → rd (wr M 140 i v) y j = rd M y j := fun y j c => rd_wn M (fun d => c d.1)
  obtain ⟨p0, p1, p2, p3, p4, p5, p6, p7, p8, p9⟩ := h
  refine ⟨p0.w1 hV (by omega) (by omega) (by omega), ?_⟩
  simp only [n1 126 _ (by decide), n1 131 _ (by decide), n1 136 _ (by decide), n1 137 _ (by decide), n1 139 _ (by decide), n1 138 _ (by decide), n1 120 _ (by decide), n1 124 _ (by decide), n1 123 _ (by decide), n1 141 _ (by decide), n1 142 _ (by decide), n1 152 _ (by decide), n1 151 _ (by decide)]
  refine ⟨p1, p2, p3, p4, p5, fun k k0 k1 => ⟨(p6 k k0 k1).1, ?_⟩, fun c => ?_, p8, p9⟩
  · by_cases c : 200 + k = i
    · rw [c, rd_ws]
      have := (p6 k k0 k1).1
      rw [c] at this
      exact psf_0 _ _ (by omega)
    · rw [rd_wn M (fun d => c d.2)]
      exact (p6 k k0 k1).2.of fun j => n1 _ _ (by decide)
  · rw [← hi, rd_ws]
    exact ⟨by omega, psf_0 _ _ (by omega)⟩
theorem Pm1_to {M : Mem} {i v : Int} (h : Pm1 M) (hV : Iv M) (hi : i = 199 + rd M 136 1) (h1 : 1 ≤ rd M 136 1) (hv : v = rd M 120 36) : Pm1 (wr M 141 i v) := by
  have v2 := ir_136_1 hV
  have n1 : ∀ y j : Int, y ≠ 141 → rd (wr M 141 i v) y j = rd M y j := fun y j c => rd_wn M (fun d => c d.1)
  obtain ⟨p0, p1, p2, p3, p4, p5, p6, p7, p8, p9⟩ := h
  refine ⟨p0.w1 hV (by omega) (by omega) (by omega), ?_⟩
  simp only [n1 126 _ (by decide), n1 131 _ (by decide), n1 136 _ (by decide), n1 137 _ (by decide), n1 139 _ (by decide), n1 138 _ (by decide), n1 120 _ (by decide), n1 124 _ (by decide), n1 123 _ (by decide), n1 140 _ (by decide), n1 142 _ (by decide), n1 152 _ (by decide), n1 151 _ (by decide)]
  refine ⟨p1, p2, p3, p4, p5, fun k k0 k1 => ?_, fun c => ⟨(p7 c).1, (p7 c).2.of fun j => n1 _ _ (by decide)⟩, p8, p9⟩
  by_cases c : 200 + k = i
  · have z := p7 h1
    rw [← hi, ← hv] at z
    rw [c, rd_ws]
    exact ⟨by omega, z.2.of fun j => n1 _ _ (by decide)⟩
  · rw [rd_wn M (fun d => c d.2)]
    exact ⟨(p6 k k0 k1).1, (p6 k k0 k1).2.of fun j => n1 _ _ (by decide)⟩
theorem Pm1_spot {M : Mem} {v kd ln cd : Int} (h : Pm1 M) (hV : Iv M) (hv : v = rd M 136 1 + 1) (e1 : rd M 137 (200 + rd M 136 1) = kd) (e2 : rd M 138 (200 + rd M 136 1) = ln) (e3 : rd M 139 (200 + rd M 136 1) = 0) (e4 : rd M 140 (200 + rd M 136 1) = cd) (e5 : rd M 141 (200 + rd M 136 1) = cd) (e6 : rd M 142 (200 + rd M 136 1) = 0) (ec : rd M 120 36 = cd) (k1 : kd = 0 → 1 ≤ rd M 136 1) (k2 : kd ≠ 0 → 0 ≤ ln) : Pm1 (wr M 136 1 v) := by
  have v2 := ir_136_1 hV
  have n1 : ∀ y j : Int, y ≠ 136 → rd (wr M 136 1 v) y j = rd M y j := fun y j c => rd_wn M (fun d => c d.1)
  obtain ⟨p0, p1, p2, p3, p4, p5, p6, p7, p8, p9⟩ := h
  obtain ⟨sp, hsp⟩ : ∃ sp, rd M 136 1 = sp := ⟨_, rfl⟩
  rw [hsp] at hv e1 e2 e3 e4 e5 e6 k1 p2 p3 p4 p6 p7 p8 p9 v2
  refine ⟨p0.w2 (by omega), ?_⟩
  simp only [n1 126 _ (by decide), n1 131 _ (by decide), n1 137 _ (by decide), n1 142 _ (by decide), n1 139 _ (by decide), n1 138 _ (by decide), n1 120 _ (by decide), n1 124 _ (by decide), n1 123 _ (by decide), n1 141 _ (by decide), n1 140 _ (by decide), n1 152 _ (by decide), n1 151 _ (by decide), rd_ws]
  refine ⟨p1, fun k k0 kl kz => ?_, fun k k0 kl kf => ?_, fun k k0 kl kz => ?_, p5, fun k k0 kl => ?_, fun _ => ?_, fun _ => ?_, fun i i0 i1 => ?_⟩
  · by_cases c : k = sp
    · subst c
      rw [e6]
      refine Or.inr ?_
      rw [show (200 : Int) + 0 = 200 by omega]
      exact p8 (k1 (e1.symm.trans kz))
    · exact p2 k k0 (by omega) kz
  · by_cases c : k = sp
    · subst c; omega
    · exact p3 k k0 (by omega) kf
  · by_cases c : k = sp
    · subst c
      rw [e2]
      exact k2 (fun q => kz (e1.trans q))
    · exact p4 k k0 (by omega) kz
  · by_cases c : k = sp
    · subst c
      rw [e4, e5, ec]
      exact ⟨Int.le_refl _, psf_0 _ _ (by omega)⟩
    · exact ⟨(p6 k k0 (by omega)).1, (p6 k k0 (by omega)).2.of fun j => n1 _ _ (by decide)⟩
  · rw [show 199 + v = 200 + sp by omega, e4, ec]
    exact ⟨Int.le_refl _, psf_0 _ _ (by omega)⟩
  · by_cases c : 1 ≤ sp
    · exact p8 c
    · have z : sp = 0 := by omega
      rw [z, show (200 : Int) + 0 = 200 by omega] at e1
      intro q
      have := k1 (e1.symm.trans q)
      omega
  · have q := p9 i i0 i1
    exact ⟨q.1, by omega, q.2.2⟩
theorem Pm1_bl {M : Mem} {v n : Int} (h : Pm1 M) (hn : rd M 120 50 = n) (hv : v = n + 1) (h0 : 200 ≤ rd M 152 n) (h1 : rd M 152 n < 200 + rd M 136 1) (h2 : rd M 151 n ≠ 1 → rd M 137 (rd M 152 n) ≠ 0) : Pm1 (wr M 120 50 v) := by
  have n1 : ∀ y j : Int, y ≠ 120 → rd (wr M 120 50 v) y j = rd M y j := fun y j c => rd_wn M (fun d => c d.1)
  have n2 : ∀ j : Int, j ≠ 50 → rd (wr M 120 50 v) 120 j = rd M 120 j := fun j c => rd_wn M (fun d => c d.2)
  obtain ⟨p0, p1, p2, p3, p4, p5, p6, p7, p8, p9⟩ := h
  refine ⟨p0.w2 (by omega), ?_⟩
  simp only [n1 126 _ (by decide), n1 131 _ (by decide), n1 136 _ (by decide), n1 137 _ (by decide), n1 142 _ (by decide), n1 139 _ (by decide), n1 138 _ (by decide), n1 124 _ (by decide), n1 123 _ (by decide), n1 141 _ (by decide), n1 140 _ (by decide), n1 152 _ (by decide), n1 151 _ (by decide), n2 8 (by decide), n2 36 (by decide), rd_ws]
  refine ⟨p1, p2, p3, p4, p5, fun k k0 k1 => ⟨(p6 k k0 k1).1, (p6 k k0 k1).2.of fun j => n1 _ _ (by decide)⟩, fun c => ⟨(p7 c).1, (p7 c).2.of fun j => n1 _ _ (by decide)⟩, p8, fun i i0 i1 => ?_⟩
  by_cases c : i = n
  · subst c
    exact ⟨h0, h1, h2⟩
  · exact p9 i i0 (by omega)
/-- a text begins -/
theorem Pm1_new {M : Mem} (h : Bk0 M) (e1 : rd M 126 1 = 0) (e2 : rd M 136 1 = 0) (e3 : rd M 123 1 = 1) (e4 : rd M 124 1 = 1) (e5 : rd M 120 50 = 0) : Pm1 M := by
  refine ⟨h, fun p p0 p1 => ?_, fun k k0 k1 => ?_, fun k k0 k1 => ?_, fun k k0 k1 => ?_, fun _ => ?_, fun k k0 k1 => ?_, fun k1 => ?_, fun k1 => ?_, fun i i0 i1 => ?_⟩
  all_goals omega
/-- a text was taken -/
theorem Pm1_end {M : Mem} (h : Pm1 M) (hf : rd M 120 8 = 0) : Bk1 M := ⟨h.2.1, h.2.2.1, fun k k0 k1 => h.2.2.2.1 k k0 k1 hf, h.2.2.2.2.1, h.2.2.2.2.2.1 hf, fun k k0 k1 => (h.2.2.2.2.2.2.1 k k0 k1).2⟩
def Dv1 (M : Mem) : Int := dp M (900 + rd M 140 (199 + rd M 136 1)) (rd M 120 36 - rd M 140 (199 + rd M 136 1)).toNat
theorem Dv1_of {M M2 : Mem} (h0 : ∀ j : Int, rd M2 143 j = rd M 143 j) (h1 : ∀ j : Int, rd M2 140 j = rd M 140 j) (h2 : rd M2 136 1 = rd M 136 1) (h3 : rd M2 120 36 = rd M 120 36) : Dv1 M2 = Dv1 M := by
  unfold Dv1
  rw [h1, h2, h3]
  exact dp_of h0 _ _
theorem Dv1_b {M : Mem} (h : Iv M) : -1000 ≤ Dv1 M ∧ Dv1 M ≤ 1000 := by
  have h1 := ir_120_36 h
  have h2 := ar_140 h (199 + rd M 136 1)
  have h3 := dp_le M (900 + rd M 140 (199 + rd M 136 1)) (rd M 120 36 - rd M 140 (199 + rd M 136 1)).toNat
  have h4 := dp_lo M (900 + rd M 140 (199 + rd M 136 1)) (rd M 120 36 - rd M 140 (199 + rd M 136 1)).toNat
  unfold Dv1
  omega
theorem Dv1_0 {M : Mem} (h : rd M 140 (199 + rd M 136 1) = rd M 120 36) : Dv1 M = 0 := by
  unfold Dv1
  rw [h, Int.sub_self]
  rfl
/-- a code is added: the two rows, then the count -/
theorem Pm1_add {M M1 : Mem} {a w n : Int} (h : Pm1 M) (hV : Iv M) (hn : rd M 120 36 = n) (h9 : n ≤ 899) (hs : 1 ≤ rd M 136 1) (e1 : rd M1 143 (900 + n) = a) (ho : ∀ y j : Int, ¬ (y = 143 ∧ j = 900 + n) → y ≠ 144 → rd M1 y j = rd M y j) (h1 : 5 < a → 1 ≤ Dv1 M) (h2 : 5 < a → a ≠ 18 → 2 ≤ Dv1 M) : Pm1 (wr M1 120 36 (n + 1)) ∧ Dv1 (wr M1 120 36 (n + 1)) = Dv1 M + dl a := by
  have v1 := ir_120_36 hV
  have v2 := ir_136_1 hV
  have nn : ∀ y j : Int, ¬ (y = 143 ∧ j = 900 + n) → y ≠ 144 → ¬ (y = 120 ∧ j = 36) → rd (wr M1 120 36 (n + 1)) y j = rd M y j := fun y j c1 c2 c3 => by rw [rd_wn _ c3, ho y j c1 c2]
  have n1 : ∀ y j : Int, y ≠ 143 → y ≠ 144 → y ≠ 120 → rd (wr M1 120 36 (n + 1)) y j = rd M y j := fun y j c1 c2 c3 => nn y j (fun d => c1 d.1) c2 (fun d => c3 d.1)
  have n2 : ∀ j : Int, j ≠ 36 → rd (wr M1 120 36 (n + 1)) 120 j = rd M 120 j := fun j c => nn _ _ (fun d => absurd d.1 (by decide)) (by decide) (fun d => c d.2)
  have n3 : ∀ j : Int, j ≠ 900 + n → rd (wr M1 120 36 (n + 1)) 143 j = rd M 143 j := fun j c => nn _ _ (fun d => c d.2) (by decide) (fun d => absurd d.1 (by decide))
  have n4 : rd (wr M1 120 36 (n + 1)) 143 (900 + n) = a := by rw [rd_wn _ (fun d => absurd d.1 (by decide)), e1]
  have n5 : rd (wr M1 120 36 (n + 1)) 120 36 = n + 1 := rd_ws _ _ _ _
  obtain ⟨p0, p1, p2, p3, p4, p5, p6, p7, p8, p9⟩ := h
  obtain ⟨q1, q2⟩ := p7 hs
  obtain ⟨cf, hcf⟩ : ∃ cf, rd M 140 (199 + rd M 136 1) = cf := ⟨_, rfl⟩
  have v3 := ar_140 hV (199 + rd M 136 1)
  have eD : Dv1 M = dp M (900 + cf) (n - cf).toNat := by unfold Dv1; rw [hcf, hn]
  rw [hcf, hn] at q1 q2
  rw [hcf] at v3
  obtain ⟨m, hm⟩ : ∃ m : Nat, (n - cf).toNat = m := ⟨_, rfl⟩
  have hm1 : (n + 1 - cf).toNat = m + 1 := by omega
  have em : 900 + cf + (m : Int) = 900 + n := by omega
  rw [hm] at eD q2
  have dpm : dp (wr M1 120 36 (n + 1)) (900 + cf) m = dp M (900 + cf) m := dp_ag fun i i0 i1 => n3 i (by omega)
  have hD2 : Dv1 (wr M1 120 36 (n + 1)) = Dv1 M + dl a := by
    unfold Dv1
    rw [n1 136 _ (by decide) (by decide) (by decide), n1 140 _ (by decide) (by decide) (by decide), n5, hcf, hm1, dp, em, n4, dpm, hn, hm]
  refine ⟨⟨?_, ?_⟩, hD2⟩
  · exact p0.ag hV (n1 _ _ (by decide) (by decide) (by decide)) (n1 _ _ (by decide) (by decide) (by decide)) (n1 _ _ (by decide) (by decide) (by decide)) (n1 _ _ (by decide) (by decide) (by decide)) (fun j _ _ => n1 _ _ (by decide) (by decide) (by decide)) (fun j _ _ => ⟨n1 _ _ (by decide) (by decide) (by decide), n1 _ _ (by decide) (by decide) (by decide), n1 _ _ (by decide) (by decide) (by decide), n1 _ _ (by decide) (by decide) (by decide), n1 _ _ (by decide) (by decide) (by decide), n1 _ _ (by decide) (by decide) (by decide)⟩) (fun j _ _ => n3 j (by omega))
  · simp only [n1 126 _ (by decide) (by decide) (by decide), n1 131 _ (by decide) (by decide) (by decide), n1 136 _ (by decide) (by decide) (by decide), n1 137 _ (by decide) (by decide) (by decide), n1 142 _ (by decide) (by decide) (by decide), n1 139 _ (by decide) (by decide) (by decide), n1 138 _ (by decide) (by decide) (by decide), n1 124 _ (by decide) (by decide) (by decide), n1 123 _ (by decide) (by decide) (by decide), n1 141 _ (by decide) (by decide) (by decide), n1 140 _ (by decide) (by decide) (by decide), n1 152 _ (by decide) (by decide) (by decide), n1 151 _ (by decide) (by decide) (by decide), n2 8 (by decide), n2 50 (by decide), n5]
    refine ⟨p1, p2, p3, p4, p5, fun k k0 k1 => ?_, fun _ => ?_, p8, p9⟩
    · have z := p6 k k0 k1
      rw [hn] at z
      have v4 := ar_140 hV (200 + k)
      exact ⟨by omega, z.2.ag fun i i0 i1 => n3 i (by omega)⟩
    · rw [hcf, hm1]
      refine ⟨by omega, fun i hi => ?_⟩
      by_cases c : i = m
      · subst c
        rw [em, n4, dpm, ← eD]
        exact ⟨h1, h2⟩
      · rw [n3 _ (by omega), dp_ag (M := M) (fun j j0 j1 => n3 j (by omega))]
        exact q2 i (by omega)
end
/-! 36.00 -/
section
def ws_X12_put_120 : List (Int × Int) := [(120, 1)]
def as_X12_put_120 : List Int := [121]
def q_X12_put_120 (a1 : Int) (M0 M' : Mem) (r : Option PV) : Prop := St Tru ws_X12_put_120 as_X12_put_120 M0 M' ∧ r = none ∧ (rd M' 120 1 = rd M0 120 1 + 4)
set_option maxRecDepth 100000 in
set_option maxHeartbeats 4000000 in
theorem sp_X12_put_120 {l : Launch} {K : EC} {M0 : Mem} (hI : In Tru M0)  (a1 : Int) (ha1 : (-2147483648) ≤ a1 ∧ a1 ≤ 2147483647)  (hq0 : rd M0 120 1 ≤ 896) : Tr l K 0 mX12_put 0 [(0, (2, 120)), (1, (0, a1))] [] M0 (q_X12_put_120 a1 M0) := by
  have hS : St Tru ws_X12_put_120 as_X12_put_120 M0 M0 := St.rf hI
  obtain ⟨g120_1, eg120_1⟩ : ∃ v, rd M0 120 1 = v := ⟨_, rfl⟩
  have bg120_1 : 0 ≤ g120_1 ∧ g120_1 ≤ 900 := by rw [← eg120_1]; exact ir_120_1 hI.2.1
  refine Tr.bipush (pc := 0) d_X12_put_0 rfl (by decide) ?_
  refine Tr.istore_n (pc := 2) (i := 2) (ls2 := [(2, (0, 24)), (0, (2, 120)), (1, (0, a1))]) d_X12_put_2 rfl (by decide) rfl ?_
  have J3 : ∀ (n3 : Nat) (M : Mem) (p3_2 u3_120_1 : Int), St Tru ws_X12_put_120 as_X12_put_120 M0 M → ((-8) ≤ p3_2 ∧ p3_2 ≤ 24) → (0 ≤ u3_120_1 ∧ u3_120_1 ≤ 900) → rd M 120 1 = u3_120_1 → (8 * u3_120_1 + p3_2 = 8 * g120_1 + 24) → (-8 ≤ p3_2 ∧ p3_2 ≤ 24) → (p3_2 = 24 ∨ p3_2 = 16 ∨ p3_2 = 8 ∨ p3_2 = 0 ∨ p3_2 = -8) → (p3_2 - (-8)).toNat < n3 → Tr l K 0 mX12_put 3 [(0, (2, 120)), (1, (0, a1)), (2, (0, p3_2))] [] M (q_X12_put_120 a1 M0) := by
    intro n3
    induction n3 with
    | zero => intro M p3_2 u3_120_1 hS bp3_2 bu3_120_1 k3_120_1 t3_0 t3_1 t3_2 hm3; exact absurd hm3 (Nat.not_lt_zero _)
    | succ n3 J3 =>
      intro M p3_2 u3_120_1 hS bp3_2 bu3_120_1 k3_120_1 t3_0 t3_1 t3_2 hm3
      refine Tr.iload_n (pc := 3) (i := 2) d_X12_put_3 rfl rfl ?_
      refine Tr.if_lt (pc := 4) (tgt := 39) d_X12_put_4 rfl (fun c4 => ?_) (fun c4 => ?_)
      · have kr_120_1 : rd M 120 1 = u3_120_1 := k3_120_1
        exact Tr.vret (pc := 39) d_X12_put_39 rfl ⟨hS, rfl, by omega⟩
      · refine Tr.aload_n (pc := 7) (i := 0) d_X12_put_7 rfl rfl ?_
        refine Tr.getf (pc := 8) d_X12_put_8 f_12_7 (by decide) (by decide) (ty_120 hS.1.1) ?_
        refine Tr.tp 121 (fx_120_0 hS.1.1) ?_
        refine Tr.aload_n (pc := 11) (i := 0) d_X12_put_11 rfl rfl ?_
        refine Tr.getf (pc := 12) d_X12_put_12 f_12_13 (by decide) (by decide) (ty_120 hS.1.1) ?_
        refine Tr.tp u3_120_1 k3_120_1 ?_
        refine Tr.iload_n (pc := 15) (i := 1) d_X12_put_15 rfl rfl ?_
        refine Tr.iload_n (pc := 16) (i := 2) d_X12_put_16 rfl rfl ?_
        refine Tr.ishr (pc := 17) d_X12_put_17 ?_
        refine Tr.gen (P := fun v => (-2147483648) ≤ v ∧ v ≤ 2147483647) (i32_b _) (fun r17 er17 br17 => ?_)
        refine Tr.sipush (pc := 18) d_X12_put_18 rfl (by decide) ?_
        refine Tr.iand (pc := 21) d_X12_put_21 ?_
        refine Tr.gen (P := fun v => 0 ≤ v ∧ v ≤ 255) (f_iand_m 8 (by decide +kernel) (by decide) (by decide +kernel)) (fun r21 er21 br21 => ?_)
        refine Tr.iastS (pc := 22) (P := St Tru ws_X12_put_120 as_X12_put_120 M0) d_X12_put_22 (ty_121 hS.1.1) (by omega) (by omega) (sa_121 hS (by decide) (by omega) trivial) (fun M22 hS w22 => ?_)
        refine Tr.aload_n (pc := 23) (i := 0) d_X12_put_23 rfl rfl ?_
        refine Tr.dup (pc := 24) d_X12_put_24 ne21 ?_
        refine Tr.getf (pc := 25) d_X12_put_25 f_12_13 (by decide) (by decide) (ty_120 hS.1.1) ?_
        refine Tr.tp u3_120_1 ((Wr.b w22 rfl).trans k3_120_1) ?_
        refine Tr.iconst (pc := 28) d_X12_put_28 (by decide) ?_
        refine Tr.iadd (pc := 29) d_X12_put_29 ?_
        refine Tr.tp (u3_120_1 + 1) ((w32_id (by omega)).trans (by omega)) ?_
        refine Tr.putfS (pc := 30) (P := St Tru ws_X12_put_120 as_X12_put_120 M0) d_X12_put_30 f_12_13 (by decide) (by decide) (ty_120 hS.1.1) (st_120_1 hS (by decide) (by omega) trivial) (fun M30 hS w30 => ?_)
        refine Tr.iincV (pc := 33) (n2 := (p3_2 - 8)) (ls2 := [(2, (0, (p3_2 - 8))), (0, (2, 120)), (1, (0, a1))]) d_X12_put_33 rfl (by decide) ((w32_id (by omega)).trans (by omega)) rfl ?_
        refine Tr.goto (pc := 36) (tgt := 3) d_X12_put_36 rfl ?_
        refine Tr.pick [1, 2, 0] (ls2 := [(0, (2, 120)), (1, (0, a1)), (2, (0, (p3_2 - 8)))]) rfl ?_
        exact J3 _ _ _ hS (by omega) (by omega) w30.1 (by omega) (by omega) (by first | assumption | omega) (by omega)
  refine Tr.pick [1, 2, 0] (ls2 := [(0, (2, 120)), (1, (0, a1)), (2, (0, 24))]) rfl ?_
  exact J3 _ _ _ _ hS (by omega) (by omega) eg120_1 (by omega) (by omega) (by first | assumption | omega) (Nat.lt_succ_self _)

def ws_X12_feed_120 : List (Int × Int) := [(120, 1)]
def as_X12_feed_120 : List Int := [121]
def q_X12_feed_120 (a1 : Int) (a2 : Int) (a3 : Int) (a4 : Int) (a5 : Int) (M0 M' : Mem) (r : Option PV) : Prop := St Tru ws_X12_feed_120 as_X12_feed_120 M0 M' ∧ ∃ v : Int, r = some (0, v) ∧ (-1) ≤ v ∧ v ≤ 900 ∧ ((v = -1 ∧ rd M' 120 1 = rd M0 120 1 ∧ 880 < rd M0 120 1) ∨ (v = rd M' 120 1 ∧ rd M' 120 1 = rd M0 120 1 + 20 ∧ rd M0 120 1 ≤ 880))
set_option maxRecDepth 100000 in
set_option maxHeartbeats 4000000 in
theorem sp_X12_feed_120 {l : Launch} {K : EC} {M0 : Mem} (hI : In Tru M0)  (a1 : Int) (ha1 : (-2147483648) ≤ a1 ∧ a1 ≤ 2147483647) (a2 : Int) (ha2 : (-2147483648) ≤ a2 ∧ a2 ≤ 2147483647) (a3 : Int) (ha3 : (-2147483648) ≤ a3 ∧ a3 ≤ 2147483647) (a4 : Int) (ha4 : (-2147483648) ≤ a4 ∧ a4 ≤ 2147483647) (a5 : Int) (ha5 : (-2147483648) ≤ a5 ∧ a5 ≤ 2147483647)  : Tr l K 1 mX12_feed 0 [(0, (2, 120)), (1, (0, a1)), (2, (0, a2)), (3, (0, a3)), (4, (0, a4)), (5, (0, a5))] [] M0 (q_X12_feed_120 a1 a2 a3 a4 a5 M0) := by
  have hS : St Tru ws_X12_feed_120 as_X12_feed_120 M0 M0 := St.rf hI
  obtain ⟨g120_1, eg120_1⟩ : ∃ v, rd M0 120 1 = v := ⟨_, rfl⟩
  have bg120_1 : 0 ≤ g120_1 ∧ g120_1 ≤ 900 := by rw [← eg120_1]; exact ir_120_1 hI.2.1
  refine Tr.aload_n (pc := 0) (i := 0) d_X12_feed_0 rfl rfl ?_
  refine Tr.getf (pc := 1) d_X12_feed_1 f_12_13 (by decide) (by decide) (ty_120 hS.1.1) ?_
  refine Tr.tp g120_1 eg120_1 ?_
  refine Tr.bipush (pc := 4) d_X12_feed_4 rfl (by decide) ?_
  refine Tr.iadd (pc := 6) d_X12_feed_6 ?_
  refine Tr.tp (g120_1 + 20) ((w32_id (by omega)).trans (by omega)) ?_
  refine Tr.sipush (pc := 7) d_X12_feed_7 rfl (by decide) ?_
  refine Tr.icmp_le (pc := 10) (tgt := 15) d_X12_feed_10 rfl (fun c10 => ?_) (fun c10 => ?_)
  · refine Tr.aload_n (pc := 15) (i := 0) d_X12_feed_15 rfl rfl ?_
    refine Tr.iload_n (pc := 16) (i := 1) d_X12_feed_16 rfl rfl ?_
    refine Tr.callV (pc := 17) (as := [_]) d_X12_feed_17 s_12_378 ok_X12_put rfl rfl (Nat.le_of_ble_eq_true rfl) (Nat.le_of_ble_eq_true rfl) (by decide) (ty_120 hS.1.1) ?_
    have kb17_120_1 : rd M0 120 1 = g120_1 := eg120_1
    refine Tr.imp (Tr.deep (by decide) (sp_X12_put_120 hS.1 a1 (by omega) (by omega))) ?_
    rintro M17 _ ⟨h17, rfl, z17_0⟩
    have hS := St.tr hS h17 (by decide) (by decide)
    obtain ⟨s17_120_1, es17_120_1⟩ : ∃ v, rd M17 120 1 = v := ⟨_, rfl⟩
    have bs17_120_1 : 0 ≤ s17_120_1 ∧ s17_120_1 ≤ 900 := by rw [← es17_120_1]; exact ir_120_1 hS.1.2.1
    refine Tr.sc [] rfl ?_
    refine Tr.aload_n (pc := 20) (i := 0) d_X12_feed_20 rfl rfl ?_
    refine Tr.iload_n (pc := 21) (i := 2) d_X12_feed_21 rfl rfl ?_
    refine Tr.callV (pc := 22) (as := [_]) d_X12_feed_22 s_12_378 ok_X12_put rfl rfl (Nat.le_of_ble_eq_true rfl) (Nat.le_of_ble_eq_true rfl) (by decide) (ty_120 hS.1.1) ?_
    have kb22_120_1 : rd M17 120 1 = s17_120_1 := es17_120_1
    refine Tr.imp (Tr.deep (by decide) (sp_X12_put_120 hS.1 a2 (by omega) (by omega))) ?_
    rintro M22 _ ⟨h22, rfl, z22_0⟩
    have hS := St.tr hS h22 (by decide) (by decide)
    obtain ⟨s22_120_1, es22_120_1⟩ : ∃ v, rd M22 120 1 = v := ⟨_, rfl⟩
    have bs22_120_1 : 0 ≤ s22_120_1 ∧ s22_120_1 ≤ 900 := by rw [← es22_120_1]; exact ir_120_1 hS.1.2.1
    refine Tr.sc [] rfl ?_
    refine Tr.aload_n (pc := 25) (i := 0) d_X12_feed_25 rfl rfl ?_
    refine Tr.iload_n (pc := 26) (i := 3) d_X12_feed_26 rfl rfl ?_
    refine Tr.callV (pc := 27) (as := [_]) d_X12_feed_27 s_12_378 ok_X12_put rfl rfl (Nat.le_of_ble_eq_true rfl) (Nat.le_of_ble_eq_true rfl) (by decide) (ty_120 hS.1.1) ?_
    have kb27_120_1 : rd M22 120 1 = s22_120_1 := es22_120_1
    refine Tr.imp (Tr.deep (by decide) (sp_X12_put_120 hS.1 a3 (by omega) (by omega))) ?_
    rintro M27 _ ⟨h27, rfl, z27_0⟩
    have hS := St.tr hS h27 (by decide) (by decide)
    obtain ⟨s27_120_1, es27_120_1⟩ : ∃ v, rd M27 120 1 = v := ⟨_, rfl⟩
    have bs27_120_1 : 0 ≤ s27_120_1 ∧ s27_120_1 ≤ 900 := by rw [← es27_120_1]; exact ir_120_1 hS.1.2.1
    refine Tr.sc [] rfl ?_
    refine Tr.aload_n (pc := 30) (i := 0) d_X12_feed_30 rfl rfl ?_
    refine Tr.iload (pc := 31) (i := 4) d_X12_feed_31 rfl ?_
    refine Tr.callV (pc := 33) (as := [_]) d_X12_feed_33 s_12_378 ok_X12_put rfl rfl (Nat.le_of_ble_eq_true rfl) (Nat.le_of_ble_eq_true rfl) (by decide) (ty_120 hS.1.1) ?_
    have kb33_120_1 : rd M27 120 1 = s27_120_1 := es27_120_1
    refine Tr.imp (Tr.deep (by decide) (sp_X12_put_120 hS.1 a4 (by omega) (by omega))) ?_
    rintro M33 _ ⟨h33, rfl, z33_0⟩
    have hS := St.tr hS h33 (by decide) (by decide)
    obtain ⟨s33_120_1, es33_120_1⟩ : ∃ v, rd M33 120 1 = v := ⟨_, rfl⟩
    have bs33_120_1 : 0 ≤ s33_120_1 ∧ s33_120_1 ≤ 900 := by rw [← es33_120_1]; exact ir_120_1 hS.1.2.1
    refine Tr.sc [] rfl ?_
    refine Tr.aload_n (pc := 36) (i := 0) d_X12_feed_36 rfl rfl ?_
    refine Tr.iload (pc := 37) (i := 5) d_X12_feed_37 rfl ?_
    refine Tr.callV (pc := 39) (as := [_]) d_X12_feed_39 s_12_378 ok_X12_put rfl rfl (Nat.le_of_ble_eq_true rfl) (Nat.le_of_ble_eq_true rfl) (by decide) (ty_120 hS.1.1) ?_
    have kb39_120_1 : rd M33 120 1 = s33_120_1 := es33_120_1
    refine Tr.imp (Tr.deep (by decide) (sp_X12_put_120 hS.1 a5 (by omega) (by omega))) ?_
    rintro M39 _ ⟨h39, rfl, z39_0⟩
    have hS := St.tr hS h39 (by decide) (by decide)
    obtain ⟨s39_120_1, es39_120_1⟩ : ∃ v, rd M39 120 1 = v := ⟨_, rfl⟩
    have bs39_120_1 : 0 ≤ s39_120_1 ∧ s39_120_1 ≤ 900 := by rw [← es39_120_1]; exact ir_120_1 hS.1.2.1
    refine Tr.sc [] rfl ?_
    refine Tr.aload_n (pc := 42) (i := 0) d_X12_feed_42 rfl rfl ?_
    refine Tr.getf (pc := 43) d_X12_feed_43 f_12_13 (by decide) (by decide) (ty_120 hS.1.1) ?_
    refine Tr.tp s39_120_1 es39_120_1 ?_
    have kr_120_1 : rd M39 120 1 = s39_120_1 := es39_120_1
    exact Tr.iret (pc := 46) d_X12_feed_46 rfl ⟨hS, _, rfl, by omega, by omega, by omega⟩
  · refine Tr.iconst (pc := 13) d_X12_feed_13 (by decide) ?_
    have kr_120_1 : rd M0 120 1 = g120_1 := eg120_1
    exact Tr.iret (pc := 14) d_X12_feed_14 rfl ⟨hS, _, rfl, by omega, by omega, by omega⟩

def ws_X12_end_120 : List (Int × Int) := [(120, 1)]
def as_X12_end_120 : List Int := []
def q_X12_end_120 (a1 : Int) (M0 M' : Mem) (r : Option PV) : Prop := St Tru ws_X12_end_120 as_X12_end_120 M0 M' ∧ ∃ v : Int, r = some (0, v) ∧ 0 ≤ v ∧ v ≤ 1 ∧ ((v = 1 ∧ rd M' 120 1 = a1 ∧ 0 ≤ a1 ∧ a1 ≤ rd M0 120 1) ∨ (v = 0 ∧ rd M' 120 1 = rd M0 120 1 ∧ (a1 < 0 ∨ rd M0 120 1 < a1)))
set_option maxRecDepth 100000 in
set_option maxHeartbeats 4000000 in
theorem sp_X12_end_120 {l : Launch} {K : EC} {M0 : Mem} (hI : In Tru M0)  (a1 : Int) (ha1 : (-2147483648) ≤ a1 ∧ a1 ≤ 2147483647)  : Tr l K 0 mX12_end 0 [(0, (2, 120)), (1, (0, a1))] [] M0 (q_X12_end_120 a1 M0) := by
  have hS : St Tru ws_X12_end_120 as_X12_end_120 M0 M0 := St.rf hI
  obtain ⟨g120_1, eg120_1⟩ : ∃ v, rd M0 120 1 = v := ⟨_, rfl⟩
  have bg120_1 : 0 ≤ g120_1 ∧ g120_1 ≤ 900 := by rw [← eg120_1]; exact ir_120_1 hI.2.1
  refine Tr.iload_n (pc := 0) (i := 1) d_X12_end_0 rfl rfl ?_
  refine Tr.if_lt (pc := 1) (tgt := 12) d_X12_end_1 rfl (fun c1 => ?_) (fun c1 => ?_)
  · refine Tr.iconst (pc := 12) d_X12_end_12 (by decide) ?_
    have kr_120_1 : rd M0 120 1 = g120_1 := eg120_1
    exact Tr.zret (pc := 13) d_X12_end_13 rfl (by omega) ⟨hS, _, rfl, by omega, by omega, by omega⟩
  · refine Tr.iload_n (pc := 4) (i := 1) d_X12_end_4 rfl rfl ?_
    refine Tr.aload_n (pc := 5) (i := 0) d_X12_end_5 rfl rfl ?_
    refine Tr.getf (pc := 6) d_X12_end_6 f_12_13 (by decide) (by decide) (ty_120 hS.1.1) ?_
    refine Tr.tp g120_1 eg120_1 ?_
    refine Tr.icmp_le (pc := 9) (tgt := 14) d_X12_end_9 rfl (fun c9 => ?_) (fun c9 => ?_)
    · refine Tr.aload_n (pc := 14) (i := 0) d_X12_end_14 rfl rfl ?_
      refine Tr.iload_n (pc := 15) (i := 1) d_X12_end_15 rfl rfl ?_
      refine Tr.putfS (pc := 16) (P := St Tru ws_X12_end_120 as_X12_end_120 M0) d_X12_end_16 f_12_13 (by decide) (by decide) (ty_120 hS.1.1) (st_120_1 hS (by decide) (by omega) trivial) (fun M16 hS w16 => ?_)
      refine Tr.iconst (pc := 19) d_X12_end_19 (by decide) ?_
      have kr_120_1 : rd M16 120 1 = a1 := w16.1
      exact Tr.zret (pc := 20) d_X12_end_20 rfl (by omega) ⟨hS, _, rfl, by omega, by omega, by omega⟩
    · refine Tr.iconst (pc := 12) d_X12_end_12 (by decide) ?_
      have kr_120_1 : rd M0 120 1 = g120_1 := eg120_1
      exact Tr.zret (pc := 13) d_X12_end_13 rfl (by omega) ⟨hS, _, rfl, by omega, by omega, by omega⟩

def ws_X12_fault_120 : List (Int × Int) := []
def as_X12_fault_120 : List Int := []
def q_X12_fault_120 (M0 M' : Mem) (r : Option PV) : Prop := St Tru ws_X12_fault_120 as_X12_fault_120 M0 M' ∧ ∃ v : Int, r = some (0, v) ∧ (-2147483648) ≤ v ∧ v ≤ 2147483647
set_option maxRecDepth 100000 in
set_option maxHeartbeats 4000000 in
theorem sp_X12_fault_120 {l : Launch} {K : EC} {M0 : Mem} (hI : In Tru M0)  (a1 : Int) (ha1 : (-2147483648) ≤ a1 ∧ a1 ≤ 2147483647)  : Tr l K 0 mX12_fault 0 [(0, (2, 120)), (1, (0, a1))] [] M0 (q_X12_fault_120 M0) := by
  have hS : St Tru ws_X12_fault_120 as_X12_fault_120 M0 M0 := St.rf hI
  refine Tr.iload_n (pc := 0) (i := 1) d_X12_fault_0 rfl rfl ?_
  refine Tr.if_ne (pc := 1) (tgt := 11) d_X12_fault_1 rfl (fun c1 => ?_) (fun c1 => ?_)
  · refine Tr.iload_n (pc := 11) (i := 1) d_X12_fault_11 rfl rfl ?_
    refine Tr.iconst (pc := 12) d_X12_fault_12 (by decide) ?_
    refine Tr.icmp_ne (pc := 13) (tgt := 23) d_X12_fault_13 rfl (fun c13 => ?_) (fun c13 => ?_)
    · refine Tr.iconst (pc := 23) d_X12_fault_23 (by decide) ?_
      exact Tr.iret (pc := 24) d_X12_fault_24 rfl ⟨hS, _, rfl, by omega, by omega⟩
    · refine Tr.aload_n (pc := 16) (i := 0) d_X12_fault_16 rfl rfl ?_
      refine Tr.getf (pc := 17) d_X12_fault_17 f_12_45 (by decide) (by decide) (ty_120 hS.1.1) ?_
      refine Tr.gen (P := fun v => (-2147483648) ≤ v ∧ v ≤ 2147483647) (ir_120_11 hS.1.2.1) (fun r17 er17 br17 => ?_)
      refine Tr.goto (pc := 20) (tgt := 24) d_X12_fault_20 rfl ?_
      exact Tr.iret (pc := 24) d_X12_fault_24 rfl ⟨hS, _, rfl, by omega, by omega⟩
  · refine Tr.aload_n (pc := 4) (i := 0) d_X12_fault_4 rfl rfl ?_
    refine Tr.getf (pc := 5) d_X12_fault_5 f_12_42 (by decide) (by decide) (ty_120 hS.1.1) ?_
    refine Tr.gen (P := fun v => (-2147483648) ≤ v ∧ v ≤ 2147483647) (ir_120_10 hS.1.2.1) (fun r5 er5 br5 => ?_)
    refine Tr.goto (pc := 8) (tgt := 24) d_X12_fault_8 rfl ?_
    exact Tr.iret (pc := 24) d_X12_fault_24 rfl ⟨hS, _, rfl, by omega, by omega⟩

def ws_X12_has_120 : List (Int × Int) := []
def as_X12_has_120 : List Int := []
def q_X12_has_120 (M0 M' : Mem) (r : Option PV) : Prop := St Tru ws_X12_has_120 as_X12_has_120 M0 M' ∧ ∃ v : Int, r = some (0, v) ∧ (-1) ≤ v ∧ v ≤ 60
set_option maxRecDepth 100000 in
set_option maxHeartbeats 4000000 in
theorem sp_X12_has_120 {l : Launch} {K : EC} {M0 : Mem} (hI : In Tru M0) (en_120_12 : rd M0 120 12 = 0) (a1 : Int) (ha1 : (-2147483648) ≤ a1 ∧ a1 ≤ 2147483647)  : Tr l K 0 mX12_has 0 [(0, (2, 120)), (1, (0, a1))] [] M0 (q_X12_has_120 M0) := by
  have hS : St Tru ws_X12_has_120 as_X12_has_120 M0 M0 := St.rf hI
  refine Tr.iload_n (pc := 0) (i := 1) d_X12_has_0 rfl rfl ?_
  rcases (show (a1 < 0 ∨ 5 < a1) ∨ a1 = 0 ∨ a1 = 1 ∨ a1 = 2 ∨ a1 = 3 ∨ a1 = 4 ∨ a1 = 5 by omega) with c1 | c1 | c1 | c1 | c1 | c1 | c1
  · refine Tr.tswOut (pc := 1) (tgt := 90) d_X12_has_1 c1 rfl ?_
    refine Tr.iconst (pc := 90) d_X12_has_90 (by decide) ?_
    exact Tr.iret (pc := 91) d_X12_has_91 rfl ⟨hS, _, rfl, by omega, by omega⟩
  · refine Tr.tp 0 c1 ?_
    refine Tr.tswIn (pc := 1) (off := 39) (tgt := 40) d_X12_has_1 (by decide) (by decide) rfl rfl ?_
    refine Tr.aload_n (pc := 40) (i := 0) d_X12_has_40 rfl rfl ?_
    refine Tr.getf (pc := 41) d_X12_has_41 f_12_63 (by decide) (by decide) (ty_120 hS.1.1) ?_
    refine Tr.tp 126 (fx_120_17 hS.1.1) ?_
    refine Tr.aload_n (pc := 44) (i := 0) d_X12_has_44 rfl rfl ?_
    refine Tr.getf (pc := 45) d_X12_has_45 f_12_48 (by decide) (by decide) (ty_120 hS.1.1) ?_
    refine Tr.tp 0 ((St.kp hS (by decide) (by decide) (by decide)).trans en_120_12) ?_
    refine Tr.iald (pc := 48) d_X12_has_48 (ty_126 hS.1.1) (by omega) (by omega) ?_
    refine Tr.gen (P := fun v => 0 ≤ v ∧ v ≤ 6) (ir_126_0 hS.1.2.1) (fun r48 er48 br48 => ?_)
    exact Tr.iret (pc := 49) d_X12_has_49 rfl ⟨hS, _, rfl, by omega, by omega⟩
  · refine Tr.tp 1 c1 ?_
    refine Tr.tswIn (pc := 1) (off := 49) (tgt := 50) d_X12_has_1 (by decide) (by decide) rfl rfl ?_
    refine Tr.aload_n (pc := 50) (i := 0) d_X12_has_50 rfl rfl ?_
    refine Tr.getf (pc := 51) d_X12_has_51 f_12_66 (by decide) (by decide) (ty_120 hS.1.1) ?_
    refine Tr.tp 127 (fx_120_18 hS.1.1) ?_
    refine Tr.aload_n (pc := 54) (i := 0) d_X12_has_54 rfl rfl ?_
    refine Tr.getf (pc := 55) d_X12_has_55 f_12_48 (by decide) (by decide) (ty_120 hS.1.1) ?_
    refine Tr.tp 0 ((St.kp hS (by decide) (by decide) (by decide)).trans en_120_12) ?_
    refine Tr.iald (pc := 58) d_X12_has_58 (ty_127 hS.1.1) (by omega) (by omega) ?_
    refine Tr.gen (P := fun v => 0 ≤ v ∧ v ≤ 3) (ir_127_0 hS.1.2.1) (fun r58 er58 br58 => ?_)
    exact Tr.iret (pc := 59) d_X12_has_59 rfl ⟨hS, _, rfl, by omega, by omega⟩
  · refine Tr.tp 2 c1 ?_
    refine Tr.tswIn (pc := 1) (off := 59) (tgt := 60) d_X12_has_1 (by decide) (by decide) rfl rfl ?_
    refine Tr.aload_n (pc := 60) (i := 0) d_X12_has_60 rfl rfl ?_
    refine Tr.getf (pc := 61) d_X12_has_61 f_12_69 (by decide) (by decide) (ty_120 hS.1.1) ?_
    refine Tr.tp 128 (fx_120_19 hS.1.1) ?_
    refine Tr.aload_n (pc := 64) (i := 0) d_X12_has_64 rfl rfl ?_
    refine Tr.getf (pc := 65) d_X12_has_65 f_12_48 (by decide) (by decide) (ty_120 hS.1.1) ?_
    refine Tr.tp 0 ((St.kp hS (by decide) (by decide) (by decide)).trans en_120_12) ?_
    refine Tr.iald (pc := 68) d_X12_has_68 (ty_128 hS.1.1) (by omega) (by omega) ?_
    refine Tr.gen (P := fun v => 0 ≤ v ∧ v ≤ 6) (ir_128_0 hS.1.2.1) (fun r68 er68 br68 => ?_)
    exact Tr.iret (pc := 69) d_X12_has_69 rfl ⟨hS, _, rfl, by omega, by omega⟩
  · refine Tr.tp 3 c1 ?_
    refine Tr.tswIn (pc := 1) (off := 69) (tgt := 70) d_X12_has_1 (by decide) (by decide) rfl rfl ?_
    refine Tr.aload_n (pc := 70) (i := 0) d_X12_has_70 rfl rfl ?_
    refine Tr.getf (pc := 71) d_X12_has_71 f_12_72 (by decide) (by decide) (ty_120 hS.1.1) ?_
    refine Tr.tp 129 (fx_120_20 hS.1.1) ?_
    refine Tr.aload_n (pc := 74) (i := 0) d_X12_has_74 rfl rfl ?_
    refine Tr.getf (pc := 75) d_X12_has_75 f_12_48 (by decide) (by decide) (ty_120 hS.1.1) ?_
    refine Tr.tp 0 ((St.kp hS (by decide) (by decide) (by decide)).trans en_120_12) ?_
    refine Tr.iald (pc := 78) d_X12_has_78 (ty_129 hS.1.1) (by omega) (by omega) ?_
    refine Tr.gen (P := fun v => 0 ≤ v ∧ v ≤ 60) (ir_129_0 hS.1.2.1) (fun r78 er78 br78 => ?_)
    exact Tr.iret (pc := 79) d_X12_has_79 rfl ⟨hS, _, rfl, by omega, by omega⟩
  · refine Tr.tp 4 c1 ?_
    refine Tr.tswIn (pc := 1) (off := 79) (tgt := 80) d_X12_has_1 (by decide) (by decide) rfl rfl ?_
    refine Tr.aload_n (pc := 80) (i := 0) d_X12_has_80 rfl rfl ?_
    refine Tr.getf (pc := 81) d_X12_has_81 f_12_333 (by decide) (by decide) (ty_120 hS.1.1) ?_
    refine Tr.gen (P := fun v => 0 ≤ v ∧ v ≤ 12) (ir_120_106 hS.1.2.1) (fun r81 er81 br81 => ?_)
    exact Tr.iret (pc := 84) d_X12_has_84 rfl ⟨hS, _, rfl, by omega, by omega⟩
  · refine Tr.tp 5 c1 ?_
    refine Tr.tswIn (pc := 1) (off := 84) (tgt := 85) d_X12_has_1 (by decide) (by decide) rfl rfl ?_
    refine Tr.aload_n (pc := 85) (i := 0) d_X12_has_85 rfl rfl ?_
    refine Tr.getf (pc := 86) d_X12_has_86 f_12_354 (by decide) (by decide) (ty_120 hS.1.1) ?_
    refine Tr.gen (P := fun v => 0 ≤ v ∧ v ≤ 6) (ir_120_113 hS.1.2.1) (fun r86 er86 br86 => ?_)
    exact Tr.iret (pc := 89) d_X12_has_89 rfl ⟨hS, _, rfl, by omega, by omega⟩

def ws_X12_is : List (Int × Int) := []
def as_X12_is : List Int := []
def q_X12_is (a0 : Int) (a1 : Int) (a2 : Int) (M0 M' : Mem) (r : Option PV) : Prop := St Tru ws_X12_is as_X12_is M0 M' ∧ ∃ v : Int, r = some (0, v) ∧ 0 ≤ v ∧ v ≤ 1 ∧ ((v = 1 ∧ a1 ≤ a0 ∧ a0 ≤ a2) ∨ (v = 0 ∧ (a0 < a1 ∨ a2 < a0)))
set_option maxRecDepth 100000 in
set_option maxHeartbeats 4000000 in
theorem sp_X12_is {l : Launch} {K : EC} {M0 : Mem} (hI : In Tru M0)  (a0 : Int) (ha0 : (-2147483648) ≤ a0 ∧ a0 ≤ 2147483647) (a1 : Int) (ha1 : (-2147483648) ≤ a1 ∧ a1 ≤ 2147483647) (a2 : Int) (ha2 : (-2147483648) ≤ a2 ∧ a2 ≤ 2147483647)  : Tr l K 0 mX12_is 0 [(0, (0, a0)), (1, (0, a1)), (2, (0, a2))] [] M0 (q_X12_is a0 a1 a2 M0) := by
  have hS : St Tru ws_X12_is as_X12_is M0 M0 := St.rf hI
  refine Tr.iload_n (pc := 0) (i := 0) d_X12_is_0 rfl rfl ?_
  refine Tr.iload_n (pc := 1) (i := 1) d_X12_is_1 rfl rfl ?_
  refine Tr.icmp_lt (pc := 2) (tgt := 14) d_X12_is_2 rfl (fun c2 => ?_) (fun c2 => ?_)
  · refine Tr.iconst (pc := 14) d_X12_is_14 (by decide) ?_
    exact Tr.zret (pc := 15) d_X12_is_15 rfl (by omega) ⟨hS, _, rfl, by omega, by omega, by omega⟩
  · refine Tr.iload_n (pc := 5) (i := 0) d_X12_is_5 rfl rfl ?_
    refine Tr.iload_n (pc := 6) (i := 2) d_X12_is_6 rfl rfl ?_
    refine Tr.icmp_gt (pc := 7) (tgt := 14) d_X12_is_7 rfl (fun c7 => ?_) (fun c7 => ?_)
    · refine Tr.iconst (pc := 14) d_X12_is_14 (by decide) ?_
      exact Tr.zret (pc := 15) d_X12_is_15 rfl (by omega) ⟨hS, _, rfl, by omega, by omega, by omega⟩
    · refine Tr.iconst (pc := 10) d_X12_is_10 (by decide) ?_
      refine Tr.goto (pc := 11) (tgt := 15) d_X12_is_11 rfl ?_
      exact Tr.zret (pc := 15) d_X12_is_15 rfl (by omega) ⟨hS, _, rfl, by omega, by omega, by omega⟩

def ws_X12_isPart_120 : List (Int × Int) := []
def as_X12_isPart_120 : List Int := []
def q_X12_isPart_120 (a1 : Int) (M0 M' : Mem) (r : Option PV) : Prop := St Tru ws_X12_isPart_120 as_X12_isPart_120 M0 M' ∧ ∃ v : Int, r = some (0, v) ∧ 0 ≤ v ∧ v ≤ 1 ∧ (v = 0 ∨ (0 ≤ a1 ∧ a1 < rd M' 126 0))
set_option maxRecDepth 100000 in
set_option maxHeartbeats 4000000 in
theorem sp_X12_isPart_120 {l : Launch} {K : EC} {M0 : Mem} (hI : In Tru M0) (en_120_12 : rd M0 120 12 = 0) (a1 : Int) (ha1 : (-2147483648) ≤ a1 ∧ a1 ≤ 2147483647)  : Tr l K 1 mX12_isPart 0 [(0, (2, 120)), (1, (0, a1))] [] M0 (q_X12_isPart_120 a1 M0) := by
  have hS : St Tru ws_X12_isPart_120 as_X12_isPart_120 M0 M0 := St.rf hI
  obtain ⟨g126_0, eg126_0⟩ : ∃ v, rd M0 126 0 = v := ⟨_, rfl⟩
  have bg126_0 : 0 ≤ g126_0 ∧ g126_0 ≤ 6 := by rw [← eg126_0]; exact ir_126_0 hI.2.1
  refine Tr.iload_n (pc := 0) (i := 1) d_X12_isPart_0 rfl rfl ?_
  refine Tr.iconst (pc := 1) d_X12_isPart_1 (by decide) ?_
  refine Tr.aload_n (pc := 2) (i := 0) d_X12_isPart_2 rfl rfl ?_
  refine Tr.getf (pc := 3) d_X12_isPart_3 f_12_63 (by decide) (by decide) (ty_120 hS.1.1) ?_
  refine Tr.tp 126 (fx_120_17 hS.1.1) ?_
  refine Tr.aload_n (pc := 6) (i := 0) d_X12_isPart_6 rfl rfl ?_
  refine Tr.getf (pc := 7) d_X12_isPart_7 f_12_48 (by decide) (by decide) (ty_120 hS.1.1) ?_
  refine Tr.tp 0 ((St.kp hS (by decide) (by decide) (by decide)).trans en_120_12) ?_
  refine Tr.iald (pc := 10) d_X12_isPart_10 (ty_126 hS.1.1) (by omega) (by omega) ?_
  refine Tr.tp g126_0 eg126_0 ?_
  refine Tr.iconst (pc := 11) d_X12_isPart_11 (by decide) ?_
  refine Tr.isub (pc := 12) d_X12_isPart_12 ?_
  refine Tr.tp (g126_0 - 1) ((w32_id (by omega)).trans (by omega)) ?_
  refine Tr.callS (pc := 13) (as := [_, _, _]) d_X12_isPart_13 s_12_467 ok_X12_is rfl rfl (Nat.le_of_ble_eq_true rfl) (Nat.le_of_ble_eq_true rfl) ?_
  refine Tr.imp (Tr.deep (by decide) (sp_X12_is hS.1 a1 (by omega) 0 (by omega) (g126_0 - 1) (by omega))) ?_
  rintro M13 _ ⟨h13, r13, rfl, lr13, ur13, wr13⟩
  have hS := St.tr hS h13 (by decide) (by decide)
  refine Tr.sc [(0, r13)] rfl ?_
  have kr_126_0 : rd M13 126 0 = g126_0 := ((St.kp h13 (by decide) (by decide) (by decide)).trans eg126_0)
  exact Tr.zret (pc := 16) d_X12_isPart_16 rfl (by omega) ⟨hS, _, rfl, by omega, by omega, by omega⟩

def ws_X12_letterOf : List (Int × Int) := []
def as_X12_letterOf : List Int := []
def q_X12_letterOf (M0 M' : Mem) (r : Option PV) : Prop := St Tru ws_X12_letterOf as_X12_letterOf M0 M' ∧ ∃ v : Int, r = some (0, v) ∧ (-1) ≤ v ∧ v ≤ 255
set_option maxRecDepth 100000 in
set_option maxHeartbeats 4000000 in
theorem sp_X12_letterOf {l : Launch} {K : EC} {M0 : Mem} (hI : In Tru M0)  (a0 : Int) (ha0 : (-9223372036854775808) ≤ a0 ∧ a0 ≤ 9223372036854775807) (a2 : Int) (ha2 : (-2147483648) ≤ a2 ∧ a2 ≤ 2147483647)  : Tr l K 0 mX12_letterOf 0 [(0, (1, a0)), (2, (0, a2))] [] M0 (q_X12_letterOf M0) := by
  have hS : St Tru ws_X12_letterOf as_X12_letterOf M0 M0 := St.rf hI
  refine Tr.iconst (pc := 0) d_X12_letterOf_0 (by decide) ?_
  refine Tr.istore_n (pc := 1) (i := 3) (ls2 := [(3, (0, 0)), (0, (1, a0)), (2, (0, a2))]) d_X12_letterOf_1 rfl (by decide) rfl ?_
  refine Tr.lload_n (pc := 2) (i := 0) d_X12_letterOf_2 rfl rfl ?_
  refine Tr.lstore (pc := 3) (i := 4) (ls2 := [(4, (1, a0)), (3, (0, 0)), (0, (1, a0)), (2, (0, a2))]) d_X12_letterOf_3 (by decide) rfl ?_
  have J5 : ∀ (n5 : Nat) (M : Mem) (p5_3 p5_4 : Int), St Tru ws_X12_letterOf as_X12_letterOf M0 M → ((-2147483648) ≤ p5_3 ∧ p5_3 ≤ 2147483647) → ((-9223372036854775808) ≤ p5_4 ∧ p5_4 ≤ 9223372036854775807) → (p5_4 % 18446744073709551616).toNat < n5 → Tr l K 0 mX12_letterOf 5 [(0, (1, a0)), (2, (0, a2)), (3, (0, p5_3)), (4, (1, p5_4))] [] M (q_X12_letterOf M0) := by
    intro n5
    induction n5 with
    | zero => intro M p5_3 p5_4 hS bp5_3 bp5_4  hm5; exact absurd hm5 (Nat.not_lt_zero _)
    | succ n5 J5 =>
      intro M p5_3 p5_4 hS bp5_3 bp5_4  hm5
      refine Tr.lload (pc := 5) (i := 4) d_X12_letterOf_5 rfl ?_
      refine Tr.lconst (pc := 7) (v := 0) d_X12_letterOf_7 rfl (by decide) ?_
      refine Tr.lcmp (pc := 8) d_X12_letterOf_8 ?_
      refine Tr.gen (P := fun v => (v = 1 ∧ 0 < p5_4) ∨ (v = 0 ∧ p5_4 = 0) ∨ (v = -1 ∧ p5_4 < 0)) (f_lcmp_c _ _) (fun r8 er8 br8 => ?_)
      refine Tr.if_eq (pc := 9) (tgt := 25) d_X12_letterOf_9 rfl (fun c9 => ?_) (fun c9 => ?_)
      · refine Tr.iload_n (pc := 25) (i := 2) d_X12_letterOf_25 rfl rfl ?_
        refine Tr.if_lt (pc := 26) (tgt := 34) d_X12_letterOf_26 rfl (fun c26 => ?_) (fun c26 => ?_)
        · refine Tr.iconst (pc := 34) d_X12_letterOf_34 (by decide) ?_
          refine Tr.goto (pc := 35) (tgt := 53) d_X12_letterOf_35 rfl ?_
          exact Tr.iret (pc := 53) d_X12_letterOf_53 rfl ⟨hS, _, rfl, by omega, by omega⟩
        · refine Tr.iload_n (pc := 29) (i := 2) d_X12_letterOf_29 rfl rfl ?_
          refine Tr.iload_n (pc := 30) (i := 3) d_X12_letterOf_30 rfl rfl ?_
          refine Tr.icmp_lt (pc := 31) (tgt := 38) d_X12_letterOf_31 rfl (fun c31 => ?_) (fun c31 => ?_)
          · refine Tr.lload_n (pc := 38) (i := 0) d_X12_letterOf_38 rfl rfl ?_
            refine Tr.bipush (pc := 39) d_X12_letterOf_39 rfl (by decide) ?_
            refine Tr.iload_n (pc := 41) (i := 3) d_X12_letterOf_41 rfl rfl ?_
            refine Tr.iconst (pc := 42) d_X12_letterOf_42 (by decide) ?_
            refine Tr.isub (pc := 43) d_X12_letterOf_43 ?_
            refine Tr.tp (p5_3 - 1) ((w32_id (by omega)).trans (by omega)) ?_
            refine Tr.iload_n (pc := 44) (i := 2) d_X12_letterOf_44 rfl rfl ?_
            refine Tr.isub (pc := 45) d_X12_letterOf_45 ?_
            refine Tr.tp (-a2 + p5_3 - 1) ((w32_id (by omega)).trans (by omega)) ?_
            refine Tr.imul (pc := 46) d_X12_letterOf_46 ?_
            refine Tr.gen (P := fun v => (-2147483648) ≤ v ∧ v ≤ 2147483647) (w32_b _) (fun r46 er46 br46 => ?_)
            refine Tr.lushr (pc := 47) d_X12_letterOf_47 ?_
            refine Tr.gen (P := fun v => (-9223372036854775808) ≤ v ∧ v ≤ 9223372036854775807) (i64_b _) (fun r47 er47 br47 => ?_)
            refine Tr.ldc2 (pc := 48) d_X12_letterOf_48 kl_12_553 (by decide) ?_
            refine Tr.land (pc := 51) d_X12_letterOf_51 ?_
            refine Tr.gen (P := fun v => 0 ≤ v ∧ v ≤ 255) (f_land_b 8 (by decide) (by decide +kernel) (by decide +kernel)) (fun r51 er51 br51 => ?_)
            refine Tr.l2i (pc := 52) d_X12_letterOf_52 ?_
            refine Tr.tp r51 (w32_id (by omega)) ?_
            exact Tr.iret (pc := 53) d_X12_letterOf_53 rfl ⟨hS, _, rfl, by omega, by omega⟩
          · refine Tr.iconst (pc := 34) d_X12_letterOf_34 (by decide) ?_
            refine Tr.goto (pc := 35) (tgt := 53) d_X12_letterOf_35 rfl ?_
            exact Tr.iret (pc := 53) d_X12_letterOf_53 rfl ⟨hS, _, rfl, by omega, by omega⟩
      · refine Tr.iincG (pc := 12) d_X12_letterOf_12 rfl (by decide) (fun r12 br12 => ?_)
        refine Tr.lc [(3, (0, r12)), (0, (1, a0)), (2, (0, a2)), (4, (1, p5_4))] rfl ?_
        refine Tr.lload (pc := 15) (i := 4) d_X12_letterOf_15 rfl ?_
        refine Tr.bipush (pc := 17) d_X12_letterOf_17 rfl (by decide) ?_
        refine Tr.lushr (pc := 19) d_X12_letterOf_19 ?_
        refine Tr.gen (P := fun v => v = (p5_4 % 18446744073709551616) / 256 ∧ (0 ≤ v ∧ v ≤ 72057594037927935)) ⟨(lushr_p8 _).2, (lushr_p8 _).1⟩ (fun r19 er19 br19 => ?_)
        refine Tr.lstore (pc := 20) (i := 4) (ls2 := [(4, (1, r19)), (3, (0, r12)), (0, (1, a0)), (2, (0, a2))]) d_X12_letterOf_20 (by decide) rfl ?_
        refine Tr.goto (pc := 22) (tgt := 5) d_X12_letterOf_22 rfl ?_
        refine Tr.pick [2, 3, 1, 0] (ls2 := [(0, (1, a0)), (2, (0, a2)), (3, (0, r12)), (4, (1, r19))]) rfl ?_
        exact J5 _ _ _ hS (by omega) (by omega) (by omega)
  refine Tr.pick [2, 3, 1, 0] (ls2 := [(0, (1, a0)), (2, (0, a2)), (3, (0, 0)), (4, (1, a0))]) rfl ?_
  exact J5 _ _ _ _ hS (by omega) (by omega) (Nat.lt_succ_self _)

def ws_X12_isInput_120 : List (Int × Int) := []
def as_X12_isInput_120 : List Int := []
def q_X12_isInput_120 (a1 : Int) (M0 M' : Mem) (r : Option PV) : Prop := St Tru ws_X12_isInput_120 as_X12_isInput_120 M0 M' ∧ ∃ v : Int, r = some (0, v) ∧ 0 ≤ v ∧ v ≤ 1 ∧ (v = 0 ∨ (0 ≤ a1 ∧ a1 < rd M' 127 0))
set_option maxRecDepth 100000 in
set_option maxHeartbeats 4000000 in
theorem sp_X12_isInput_120 {l : Launch} {K : EC} {M0 : Mem} (hI : In Tru M0) (en_120_12 : rd M0 120 12 = 0) (a1 : Int) (ha1 : (-2147483648) ≤ a1 ∧ a1 ≤ 2147483647)  : Tr l K 1 mX12_isInput 0 [(0, (2, 120)), (1, (0, a1))] [] M0 (q_X12_isInput_120 a1 M0) := by
  have hS : St Tru ws_X12_isInput_120 as_X12_isInput_120 M0 M0 := St.rf hI
  obtain ⟨g127_0, eg127_0⟩ : ∃ v, rd M0 127 0 = v := ⟨_, rfl⟩
  have bg127_0 : 0 ≤ g127_0 ∧ g127_0 ≤ 3 := by rw [← eg127_0]; exact ir_127_0 hI.2.1
  refine Tr.iload_n (pc := 0) (i := 1) d_X12_isInput_0 rfl rfl ?_
  refine Tr.iconst (pc := 1) d_X12_isInput_1 (by decide) ?_
  refine Tr.aload_n (pc := 2) (i := 0) d_X12_isInput_2 rfl rfl ?_
  refine Tr.getf (pc := 3) d_X12_isInput_3 f_12_66 (by decide) (by decide) (ty_120 hS.1.1) ?_
  refine Tr.tp 127 (fx_120_18 hS.1.1) ?_
  refine Tr.aload_n (pc := 6) (i := 0) d_X12_isInput_6 rfl rfl ?_
  refine Tr.getf (pc := 7) d_X12_isInput_7 f_12_48 (by decide) (by decide) (ty_120 hS.1.1) ?_
  refine Tr.tp 0 ((St.kp hS (by decide) (by decide) (by decide)).trans en_120_12) ?_
  refine Tr.iald (pc := 10) d_X12_isInput_10 (ty_127 hS.1.1) (by omega) (by omega) ?_
  refine Tr.tp g127_0 eg127_0 ?_
  refine Tr.iconst (pc := 11) d_X12_isInput_11 (by decide) ?_
  refine Tr.isub (pc := 12) d_X12_isInput_12 ?_
  refine Tr.tp (g127_0 - 1) ((w32_id (by omega)).trans (by omega)) ?_
  refine Tr.callS (pc := 13) (as := [_, _, _]) d_X12_isInput_13 s_12_467 ok_X12_is rfl rfl (Nat.le_of_ble_eq_true rfl) (Nat.le_of_ble_eq_true rfl) ?_
  refine Tr.imp (Tr.deep (by decide) (sp_X12_is hS.1 a1 (by omega) 0 (by omega) (g127_0 - 1) (by omega))) ?_
  rintro M13 _ ⟨h13, r13, rfl, lr13, ur13, wr13⟩
  have hS := St.tr hS h13 (by decide) (by decide)
  refine Tr.sc [(0, r13)] rfl ?_
  have kr_127_0 : rd M13 127 0 = g127_0 := ((St.kp h13 (by decide) (by decide) (by decide)).trans eg127_0)
  exact Tr.zret (pc := 16) d_X12_isInput_16 rfl (by omega) ⟨hS, _, rfl, by omega, by omega, by omega⟩

def ws_X12_letter_120 : List (Int × Int) := []
def as_X12_letter_120 : List Int := []
def q_X12_letter_120 (M0 M' : Mem) (r : Option PV) : Prop := St Tru ws_X12_letter_120 as_X12_letter_120 M0 M' ∧ ∃ v : Int, r = some (0, v) ∧ (-1) ≤ v ∧ v ≤ 255
set_option maxRecDepth 100000 in
set_option maxHeartbeats 4000000 in
theorem sp_X12_letter_120 {l : Launch} {K : EC} {M0 : Mem} (hI : In Tru M0) (en_120_12 : rd M0 120 12 = 0) (a1 : Int) (ha1 : (-2147483648) ≤ a1 ∧ a1 ≤ 2147483647) (a2 : Int) (ha2 : (-2147483648) ≤ a2 ∧ a2 ≤ 2147483647) (a3 : Int) (ha3 : (-2147483648) ≤ a3 ∧ a3 ≤ 2147483647)  : Tr l K 2 mX12_letter 0 [(0, (2, 120)), (1, (0, a1)), (2, (0, a2)), (3, (0, a3))] [] M0 (q_X12_letter_120 M0) := by
  have hS : St Tru ws_X12_letter_120 as_X12_letter_120 M0 M0 := St.rf hI
  refine Tr.iload_n (pc := 0) (i := 1) d_X12_letter_0 rfl rfl ?_
  have J31 : ∀ (M : Mem), St Tru ws_X12_letter_120 as_X12_letter_120 M0 M → Tr l K 2 mX12_letter 31 [(0, (2, 120)), (1, (0, a1)), (2, (0, a2)), (3, (0, a3))] [] M (q_X12_letter_120 M0) := by
    intro M  hS  
    refine Tr.iload_n (pc := 31) (i := 1) d_X12_letter_31 rfl rfl ?_
    refine Tr.iconst (pc := 32) d_X12_letter_32 (by decide) ?_
    have J62 : ∀ (M : Mem), St Tru ws_X12_letter_120 as_X12_letter_120 M0 M → Tr l K 2 mX12_letter 62 [(0, (2, 120)), (1, (0, a1)), (2, (0, a2)), (3, (0, a3))] [] M (q_X12_letter_120 M0) := by
      intro M  hS  
      refine Tr.iload_n (pc := 62) (i := 1) d_X12_letter_62 rfl rfl ?_
      refine Tr.iconst (pc := 63) d_X12_letter_63 (by decide) ?_
      refine Tr.icmp_ne (pc := 64) (tgt := 105) d_X12_letter_64 rfl (fun c64 => ?_) (fun c64 => ?_)
      · refine Tr.iconst (pc := 105) d_X12_letter_105 (by decide) ?_
        exact Tr.iret (pc := 106) d_X12_letter_106 rfl ⟨hS, _, rfl, by omega, by omega⟩
      · refine Tr.iload_n (pc := 67) (i := 2) d_X12_letter_67 rfl rfl ?_
        refine Tr.iconst (pc := 68) d_X12_letter_68 (by decide) ?_
        refine Tr.aload_n (pc := 69) (i := 0) d_X12_letter_69 rfl rfl ?_
        refine Tr.getf (pc := 70) d_X12_letter_70 f_12_69 (by decide) (by decide) (ty_120 hS.1.1) ?_
        refine Tr.tp 128 (fx_120_19 hS.1.1) ?_
        refine Tr.aload_n (pc := 73) (i := 0) d_X12_letter_73 rfl rfl ?_
        refine Tr.getf (pc := 74) d_X12_letter_74 f_12_48 (by decide) (by decide) (ty_120 hS.1.1) ?_
        refine Tr.tp 0 ((St.kp hS (by decide) (by decide) (by decide)).trans en_120_12) ?_
        refine Tr.iald (pc := 77) d_X12_letter_77 (ty_128 hS.1.1) (by omega) (by omega) ?_
        refine Tr.gen (P := fun v => 0 ≤ v ∧ v ≤ 6) (ir_128_0 hS.1.2.1) (fun r77 er77 br77 => ?_)
        refine Tr.iconst (pc := 78) d_X12_letter_78 (by decide) ?_
        refine Tr.isub (pc := 79) d_X12_letter_79 ?_
        refine Tr.tp (r77 - 1) ((w32_id (by omega)).trans (by omega)) ?_
        refine Tr.callS (pc := 80) (as := [_, _, _]) d_X12_letter_80 s_12_467 ok_X12_is rfl rfl (Nat.le_of_ble_eq_true rfl) (Nat.le_of_ble_eq_true rfl) ?_
        refine Tr.imp (Tr.deep (by decide) (sp_X12_is hS.1 a2 (by omega) 0 (by omega) (r77 - 1) (by omega))) ?_
        rintro M80 _ ⟨h80, r80, rfl, lr80, ur80, wr80⟩
        have hS := St.tr hS h80 (by decide) (by decide)
        refine Tr.sc [(0, r80)] rfl ?_
        refine Tr.if_eq (pc := 83) (tgt := 105) d_X12_letter_83 rfl (fun c83 => ?_) (fun c83 => ?_)
        · refine Tr.iconst (pc := 105) d_X12_letter_105 (by decide) ?_
          exact Tr.iret (pc := 106) d_X12_letter_106 rfl ⟨hS, _, rfl, by omega, by omega⟩
        · refine Tr.aload_n (pc := 86) (i := 0) d_X12_letter_86 rfl rfl ?_
          refine Tr.getf (pc := 87) d_X12_letter_87 f_12_91 (by decide) (by decide) (ty_120 hS.1.1) ?_
          refine Tr.tp 135 (fx_120_26 hS.1.1) ?_
          refine Tr.bipush (pc := 90) d_X12_letter_90 rfl (by decide) ?_
          refine Tr.aload_n (pc := 92) (i := 0) d_X12_letter_92 rfl rfl ?_
          refine Tr.getf (pc := 93) d_X12_letter_93 f_12_48 (by decide) (by decide) (ty_120 hS.1.1) ?_
          refine Tr.tp 0 ((St.kp hS (by decide) (by decide) (by decide)).trans en_120_12) ?_
          refine Tr.imul (pc := 96) d_X12_letter_96 ?_
          refine Tr.tp 0 (by decide) ?_
          refine Tr.iload_n (pc := 97) (i := 2) d_X12_letter_97 rfl rfl ?_
          refine Tr.iadd (pc := 98) d_X12_letter_98 ?_
          refine Tr.tp a2 ((w32_id (by omega)).trans (by omega)) ?_
          refine Tr.lald (pc := 99) d_X12_letter_99 (ty_135 hS.1.1) (by omega) (by omega) ?_
          refine Tr.gen (P := fun v => (-9223372036854775808) ≤ v ∧ v ≤ 9223372036854775807) (ar_135 hS.1.2.1 _) (fun r99 er99 br99 => ?_)
          refine Tr.iload_n (pc := 100) (i := 3) d_X12_letter_100 rfl rfl ?_
          refine Tr.callS (pc := 101) (as := [_, _]) d_X12_letter_101 s_12_558 ok_X12_letterOf rfl rfl (Nat.le_of_ble_eq_true rfl) (Nat.le_of_ble_eq_true rfl) ?_
          refine Tr.imp (Tr.deep (by decide) (sp_X12_letterOf hS.1 r99 (by omega) a3 (by omega))) ?_
          rintro M101 _ ⟨h101, r101, rfl, lr101, ur101⟩
          have hS := St.tr hS h101 (by decide) (by decide)
          refine Tr.sc [(0, r101)] rfl ?_
          exact Tr.iret (pc := 104) d_X12_letter_104 rfl ⟨hS, _, rfl, by omega, by omega⟩
    refine Tr.icmp_ne (pc := 33) (tgt := 62) d_X12_letter_33 rfl (fun c33 => ?_) (fun c33 => ?_)
    · refine Tr.pick [0, 1, 2, 3] (ls2 := [(0, (2, 120)), (1, (0, a1)), (2, (0, a2)), (3, (0, a3))]) rfl ?_
      exact J62 _ hS 
    · refine Tr.aload_n (pc := 36) (i := 0) d_X12_letter_36 rfl rfl ?_
      refine Tr.iload_n (pc := 37) (i := 2) d_X12_letter_37 rfl rfl ?_
      refine Tr.callV (pc := 38) (as := [_]) d_X12_letter_38 s_12_562 ok_X12_isInput rfl rfl (Nat.le_of_ble_eq_true rfl) (Nat.le_of_ble_eq_true rfl) (by decide) (ty_120 hS.1.1) ?_
      refine Tr.imp (Tr.deep (by decide) (sp_X12_isInput_120 hS.1 ((St.kp hS (by decide) (by decide) (by decide)).trans en_120_12) a2 (by omega))) ?_
      rintro M38 _ ⟨h38, r38, rfl, lr38, ur38, z38_0⟩
      have hS := St.tr hS h38 (by decide) (by decide)
      obtain ⟨w38_127_0, ew38_127_0⟩ : ∃ v, rd M38 127 0 = v := ⟨_, rfl⟩
      have bw38_127_0 : 0 ≤ w38_127_0 ∧ w38_127_0 ≤ 3 := by rw [← ew38_127_0]; exact ir_127_0 hS.1.2.1
      have ka38_127_0 : rd M38 127 0 = w38_127_0 := ew38_127_0
      refine Tr.sc [(0, r38)] rfl ?_
      refine Tr.if_eq (pc := 41) (tgt := 62) d_X12_letter_41 rfl (fun c41 => ?_) (fun c41 => ?_)
      · refine Tr.pick [0, 1, 2, 3] (ls2 := [(0, (2, 120)), (1, (0, a1)), (2, (0, a2)), (3, (0, a3))]) rfl ?_
        exact J62 _ hS 
      · refine Tr.aload_n (pc := 44) (i := 0) d_X12_letter_44 rfl rfl ?_
        refine Tr.getf (pc := 45) d_X12_letter_45 f_12_82 (by decide) (by decide) (ty_120 hS.1.1) ?_
        refine Tr.tp 132 (fx_120_23 hS.1.1) ?_
        refine Tr.iconst (pc := 48) d_X12_letter_48 (by decide) ?_
        refine Tr.aload_n (pc := 49) (i := 0) d_X12_letter_49 rfl rfl ?_
        refine Tr.getf (pc := 50) d_X12_letter_50 f_12_48 (by decide) (by decide) (ty_120 hS.1.1) ?_
        refine Tr.tp 0 ((St.kp hS (by decide) (by decide) (by decide)).trans en_120_12) ?_
        refine Tr.imul (pc := 53) d_X12_letter_53 ?_
        refine Tr.tp 0 (by decide) ?_
        refine Tr.iload_n (pc := 54) (i := 2) d_X12_letter_54 rfl rfl ?_
        refine Tr.iadd (pc := 55) d_X12_letter_55 ?_
        refine Tr.tp a2 ((w32_id (by omega)).trans (by omega)) ?_
        refine Tr.lald (pc := 56) d_X12_letter_56 (ty_132 hS.1.1) (by omega) (by omega) ?_
        refine Tr.gen (P := fun v => (-9223372036854775808) ≤ v ∧ v ≤ 9223372036854775807) (ar_132 hS.1.2.1 _) (fun r56 er56 br56 => ?_)
        refine Tr.iload_n (pc := 57) (i := 3) d_X12_letter_57 rfl rfl ?_
        refine Tr.callS (pc := 58) (as := [_, _]) d_X12_letter_58 s_12_558 ok_X12_letterOf rfl rfl (Nat.le_of_ble_eq_true rfl) (Nat.le_of_ble_eq_true rfl) ?_
        refine Tr.imp (Tr.deep (by decide) (sp_X12_letterOf hS.1 r56 (by omega) a3 (by omega))) ?_
        rintro M58 _ ⟨h58, r58, rfl, lr58, ur58⟩
        have hS := St.tr hS h58 (by decide) (by decide)
        refine Tr.sc [(0, r58)] rfl ?_
        exact Tr.iret (pc := 61) d_X12_letter_61 rfl ⟨hS, _, rfl, by omega, by omega⟩
  refine Tr.if_ne (pc := 1) (tgt := 31) d_X12_letter_1 rfl (fun c1 => ?_) (fun c1 => ?_)
  · refine Tr.pick [0, 1, 2, 3] (ls2 := [(0, (2, 120)), (1, (0, a1)), (2, (0, a2)), (3, (0, a3))]) rfl ?_
    exact J31 _ hS 
  · refine Tr.aload_n (pc := 4) (i := 0) d_X12_letter_4 rfl rfl ?_
    refine Tr.iload_n (pc := 5) (i := 2) d_X12_letter_5 rfl rfl ?_
    refine Tr.callV (pc := 6) (as := [_]) d_X12_letter_6 s_12_555 ok_X12_isPart rfl rfl (Nat.le_of_ble_eq_true rfl) (Nat.le_of_ble_eq_true rfl) (by decide) (ty_120 hS.1.1) ?_
    refine Tr.imp (Tr.deep (by decide) (sp_X12_isPart_120 hS.1 ((St.kp hS (by decide) (by decide) (by decide)).trans en_120_12) a2 (by omega))) ?_
    rintro M6 _ ⟨h6, r6, rfl, lr6, ur6, z6_0⟩
    have hS := St.tr hS h6 (by decide) (by decide)
    obtain ⟨w6_126_0, ew6_126_0⟩ : ∃ v, rd M6 126 0 = v := ⟨_, rfl⟩
    have bw6_126_0 : 0 ≤ w6_126_0 ∧ w6_126_0 ≤ 6 := by rw [← ew6_126_0]; exact ir_126_0 hS.1.2.1
    have ka6_126_0 : rd M6 126 0 = w6_126_0 := ew6_126_0
    refine Tr.sc [(0, r6)] rfl ?_
    refine Tr.if_eq (pc := 9) (tgt := 31) d_X12_letter_9 rfl (fun c9 => ?_) (fun c9 => ?_)
    · refine Tr.pick [0, 1, 2, 3] (ls2 := [(0, (2, 120)), (1, (0, a1)), (2, (0, a2)), (3, (0, a3))]) rfl ?_
      exact J31 _ hS 
    · refine Tr.aload_n (pc := 12) (i := 0) d_X12_letter_12 rfl rfl ?_
      refine Tr.getf (pc := 13) d_X12_letter_13 f_12_75 (by decide) (by decide) (ty_120 hS.1.1) ?_
      refine Tr.tp 130 (fx_120_21 hS.1.1) ?_
      refine Tr.bipush (pc := 16) d_X12_letter_16 rfl (by decide) ?_
      refine Tr.aload_n (pc := 18) (i := 0) d_X12_letter_18 rfl rfl ?_
      refine Tr.getf (pc := 19) d_X12_letter_19 f_12_48 (by decide) (by decide) (ty_120 hS.1.1) ?_
      refine Tr.tp 0 ((St.kp hS (by decide) (by decide) (by decide)).trans en_120_12) ?_
      refine Tr.imul (pc := 22) d_X12_letter_22 ?_
      refine Tr.tp 0 (by decide) ?_
      refine Tr.iload_n (pc := 23) (i := 2) d_X12_letter_23 rfl rfl ?_
      refine Tr.iadd (pc := 24) d_X12_letter_24 ?_
      refine Tr.tp a2 ((w32_id (by omega)).trans (by omega)) ?_
      refine Tr.lald (pc := 25) d_X12_letter_25 (ty_130 hS.1.1) (by omega) (by omega) ?_
      refine Tr.gen (P := fun v => (-9223372036854775808) ≤ v ∧ v ≤ 9223372036854775807) (ar_130 hS.1.2.1 _) (fun r25 er25 br25 => ?_)
      refine Tr.iload_n (pc := 26) (i := 3) d_X12_letter_26 rfl rfl ?_
      refine Tr.callS (pc := 27) (as := [_, _]) d_X12_letter_27 s_12_558 ok_X12_letterOf rfl rfl (Nat.le_of_ble_eq_true rfl) (Nat.le_of_ble_eq_true rfl) ?_
      refine Tr.imp (Tr.deep (by decide) (sp_X12_letterOf hS.1 r25 (by omega) a3 (by omega))) ?_
      rintro M27 _ ⟨h27, r27, rfl, lr27, ur27⟩
      have hS := St.tr hS h27 (by decide) (by decide)
      refine Tr.sc [(0, r27)] rfl ?_
      exact Tr.iret (pc := 30) d_X12_letter_30 rfl ⟨hS, _, rfl, by omega, by omega⟩

def ws_X12_put__120 : List (Int × Int) := []
def as_X12_put__120 : List Int := [153]
def q_X12_put__120 (M0 M' : Mem) (r : Option PV) : Prop := St Tru ws_X12_put__120 as_X12_put__120 M0 M' ∧ ∃ v : Int, r = some (0, v) ∧ 0 ≤ v ∧ v ≤ 1
set_option maxRecDepth 100000 in
set_option maxHeartbeats 4000000 in
theorem sp_X12_put__120 {l : Launch} {K : EC} {M0 : Mem} (hI : In Tru M0) (en_120_12 : rd M0 120 12 = 0) (a1 : Int) (ha1 : (-2147483648) ≤ a1 ∧ a1 ≤ 2147483647) (a2 : Int) (ha2 : (-2147483648) ≤ a2 ∧ a2 ≤ 2147483647)  : Tr l K 2 mX12_put_ 0 [(0, (2, 120)), (1, (0, a1)), (2, (0, a2))] [] M0 (q_X12_put__120 M0) := by
  have hS : St Tru ws_X12_put__120 as_X12_put__120 M0 M0 := St.rf hI
  refine Tr.aload_n (pc := 0) (i := 0) d_X12_put__0 rfl rfl ?_
  refine Tr.iload_n (pc := 1) (i := 1) d_X12_put__1 rfl rfl ?_
  refine Tr.callV (pc := 2) (as := [_]) d_X12_put__2 s_12_562 ok_X12_isInput rfl rfl (Nat.le_of_ble_eq_true rfl) (Nat.le_of_ble_eq_true rfl) (by decide) (ty_120 hS.1.1) ?_
  refine Tr.imp (Tr.deep (by decide) (sp_X12_isInput_120 hS.1 ((St.kp hS (by decide) (by decide) (by decide)).trans en_120_12) a1 (by omega))) ?_
  rintro M2 _ ⟨h2, r2, rfl, lr2, ur2, z2_0⟩
  have hS := St.tr hS h2 (by decide) (by decide)
  obtain ⟨w2_127_0, ew2_127_0⟩ : ∃ v, rd M2 127 0 = v := ⟨_, rfl⟩
  have bw2_127_0 : 0 ≤ w2_127_0 ∧ w2_127_0 ≤ 3 := by rw [← ew2_127_0]; exact ir_127_0 hS.1.2.1
  have ka2_127_0 : rd M2 127 0 = w2_127_0 := ew2_127_0
  refine Tr.sc [(0, r2)] rfl ?_
  refine Tr.if_eq (pc := 5) (tgt := 41) d_X12_put__5 rfl (fun c5 => ?_) (fun c5 => ?_)
  · refine Tr.iconst (pc := 41) d_X12_put__41 (by decide) ?_
    exact Tr.zret (pc := 42) d_X12_put__42 rfl (by omega) ⟨hS, _, rfl, by omega, by omega⟩
  · refine Tr.iload_n (pc := 8) (i := 2) d_X12_put__8 rfl rfl ?_
    refine Tr.aload_n (pc := 9) (i := 0) d_X12_put__9 rfl rfl ?_
    refine Tr.getf (pc := 10) d_X12_put__10 f_12_85 (by decide) (by decide) (ty_120 hS.1.1) ?_
    refine Tr.tp 133 (fx_120_24 hS.1.1) ?_
    refine Tr.iconst (pc := 13) d_X12_put__13 (by decide) ?_
    refine Tr.aload_n (pc := 14) (i := 0) d_X12_put__14 rfl rfl ?_
    refine Tr.getf (pc := 15) d_X12_put__15 f_12_48 (by decide) (by decide) (ty_120 hS.1.1) ?_
    refine Tr.tp 0 ((St.kp hS (by decide) (by decide) (by decide)).trans en_120_12) ?_
    refine Tr.imul (pc := 18) d_X12_put__18 ?_
    refine Tr.tp 0 (by decide) ?_
    refine Tr.iload_n (pc := 19) (i := 1) d_X12_put__19 rfl rfl ?_
    refine Tr.iadd (pc := 20) d_X12_put__20 ?_
    refine Tr.tp a1 ((w32_id (by omega)).trans (by omega)) ?_
    refine Tr.iald (pc := 21) d_X12_put__21 (ty_133 hS.1.1) (by omega) (by omega) ?_
    refine Tr.gen (P := fun v => (-2147483648) ≤ v ∧ v ≤ 2147483647) (ar_133 hS.1.2.1 _) (fun r21 er21 br21 => ?_)
    refine Tr.aload_n (pc := 22) (i := 0) d_X12_put__22 rfl rfl ?_
    refine Tr.getf (pc := 23) d_X12_put__23 f_12_88 (by decide) (by decide) (ty_120 hS.1.1) ?_
    refine Tr.tp 134 (fx_120_25 hS.1.1) ?_
    refine Tr.iconst (pc := 26) d_X12_put__26 (by decide) ?_
    refine Tr.aload_n (pc := 27) (i := 0) d_X12_put__27 rfl rfl ?_
    refine Tr.getf (pc := 28) d_X12_put__28 f_12_48 (by decide) (by decide) (ty_120 hS.1.1) ?_
    refine Tr.tp 0 ((St.kp hS (by decide) (by decide) (by decide)).trans en_120_12) ?_
    refine Tr.imul (pc := 31) d_X12_put__31 ?_
    refine Tr.tp 0 (by decide) ?_
    refine Tr.iload_n (pc := 32) (i := 1) d_X12_put__32 rfl rfl ?_
    refine Tr.iadd (pc := 33) d_X12_put__33 ?_
    refine Tr.tp a1 ((w32_id (by omega)).trans (by omega)) ?_
    refine Tr.iald (pc := 34) d_X12_put__34 (ty_134 hS.1.1) (by omega) (by omega) ?_
    refine Tr.gen (P := fun v => (-2147483648) ≤ v ∧ v ≤ 2147483647) (ar_134 hS.1.2.1 _) (fun r34 er34 br34 => ?_)
    refine Tr.callS (pc := 35) (as := [_, _, _]) d_X12_put__35 s_12_467 ok_X12_is rfl rfl (Nat.le_of_ble_eq_true rfl) (Nat.le_of_ble_eq_true rfl) ?_
    refine Tr.imp (Tr.deep (by decide) (sp_X12_is hS.1 a2 (by omega) r21 (by omega) r34 (by omega))) ?_
    rintro M35 _ ⟨h35, r35, rfl, lr35, ur35, wr35⟩
    have hS := St.tr hS h35 (by decide) (by decide)
    refine Tr.sc [(0, r35)] rfl ?_
    refine Tr.if_ne (pc := 38) (tgt := 43) d_X12_put__38 rfl (fun c38 => ?_) (fun c38 => ?_)
    · refine Tr.aload_n (pc := 43) (i := 0) d_X12_put__43 rfl rfl ?_
      refine Tr.getf (pc := 44) d_X12_put__44 f_12_168 (by decide) (by decide) (ty_120 hS.1.1) ?_
      refine Tr.tp 153 (fx_120_51 hS.1.1) ?_
      refine Tr.iload_n (pc := 47) (i := 1) d_X12_put__47 rfl rfl ?_
      refine Tr.iload_n (pc := 48) (i := 2) d_X12_put__48 rfl rfl ?_
      refine Tr.iastS (pc := 49) (P := St Tru ws_X12_put__120 as_X12_put__120 M0) d_X12_put__49 (ty_153 hS.1.1) (by omega) (by omega) (sa_153 hS (by decide) (by omega) trivial) (fun M49 hS w49 => ?_)
      refine Tr.iconst (pc := 50) d_X12_put__50 (by decide) ?_
      exact Tr.zret (pc := 51) d_X12_put__51 rfl (by omega) ⟨hS, _, rfl, by omega, by omega⟩
    · refine Tr.iconst (pc := 41) d_X12_put__41 (by decide) ?_
      exact Tr.zret (pc := 42) d_X12_put__42 rfl (by omega) ⟨hS, _, rfl, by omega, by omega⟩

def ws_X12_ran_120 : List (Int × Int) := []
def as_X12_ran_120 : List Int := []
def q_X12_ran_120 (M0 M' : Mem) (r : Option PV) : Prop := St Tru ws_X12_ran_120 as_X12_ran_120 M0 M' ∧ ∃ v : Int, r = some (0, v) ∧ (-2147483648) ≤ v ∧ v ≤ 2147483647
set_option maxRecDepth 100000 in
set_option maxHeartbeats 4000000 in
theorem sp_X12_ran_120 {l : Launch} {K : EC} {M0 : Mem} (hI : In Tru M0)  (a1 : Int) (ha1 : (-2147483648) ≤ a1 ∧ a1 ≤ 2147483647)  : Tr l K 0 mX12_ran 0 [(0, (2, 120)), (1, (0, a1))] [] M0 (q_X12_ran_120 M0) := by
  have hS : St Tru ws_X12_ran_120 as_X12_ran_120 M0 M0 := St.rf hI
  refine Tr.aload_n (pc := 0) (i := 0) d_X12_ran_0 rfl rfl ?_
  refine Tr.getz (pc := 1) d_X12_ran_1 f_12_270 (by decide) (ty_120 hS.1.1) ?_
  refine Tr.gen (P := fun v => 0 ≤ v ∧ v ≤ 1) (ir_120_85 hS.1.2.1) (fun r1 er1 br1 => ?_)
  refine Tr.if_ne (pc := 4) (tgt := 9) d_X12_ran_4 rfl (fun c4 => ?_) (fun c4 => ?_)
  · refine Tr.iload_n (pc := 9) (i := 1) d_X12_ran_9 rfl rfl ?_
    rcases (show (a1 < 0 ∨ 5 < a1) ∨ a1 = 0 ∨ a1 = 1 ∨ a1 = 2 ∨ a1 = 3 ∨ a1 = 4 ∨ a1 = 5 by omega) with c10 | c10 | c10 | c10 | c10 | c10 | c10
    · refine Tr.tswOut (pc := 10) (tgt := 79) d_X12_ran_10 c10 rfl ?_
      refine Tr.iconst (pc := 79) d_X12_ran_79 (by decide) ?_
      exact Tr.iret (pc := 80) d_X12_ran_80 rfl ⟨hS, _, rfl, by omega, by omega⟩
    · refine Tr.tp 0 c10 ?_
      refine Tr.tswIn (pc := 10) (off := 38) (tgt := 48) d_X12_ran_10 (by decide) (by decide) rfl rfl ?_
      refine Tr.aload_n (pc := 48) (i := 0) d_X12_ran_48 rfl rfl ?_
      refine Tr.getf (pc := 49) d_X12_ran_49 f_12_273 (by decide) (by decide) (ty_120 hS.1.1) ?_
      refine Tr.gen (P := fun v => 0 ≤ v ∧ v ≤ 2060) (ir_120_86 hS.1.2.1) (fun r49 er49 br49 => ?_)
      exact Tr.iret (pc := 52) d_X12_ran_52 rfl ⟨hS, _, rfl, by omega, by omega⟩
    · refine Tr.tp 1 c10 ?_
      refine Tr.tswIn (pc := 10) (off := 43) (tgt := 53) d_X12_ran_10 (by decide) (by decide) rfl rfl ?_
      refine Tr.aload_n (pc := 53) (i := 0) d_X12_ran_53 rfl rfl ?_
      refine Tr.getf (pc := 54) d_X12_ran_54 f_12_276 (by decide) (by decide) (ty_120 hS.1.1) ?_
      refine Tr.gen (P := fun v => (-9223372036854775808) ≤ v ∧ v ≤ 9223372036854775807) (ir_120_87 hS.1.2.1) (fun r54 er54 br54 => ?_)
      refine Tr.l2i (pc := 57) d_X12_ran_57 ?_
      refine Tr.gen (P := fun v => (-2147483648) ≤ v ∧ v ≤ 2147483647) (w32_b _) (fun r57 er57 br57 => ?_)
      exact Tr.iret (pc := 58) d_X12_ran_58 rfl ⟨hS, _, rfl, by omega, by omega⟩
    · refine Tr.tp 2 c10 ?_
      refine Tr.tswIn (pc := 10) (off := 49) (tgt := 59) d_X12_ran_10 (by decide) (by decide) rfl rfl ?_
      refine Tr.aload_n (pc := 59) (i := 0) d_X12_ran_59 rfl rfl ?_
      refine Tr.getf (pc := 60) d_X12_ran_60 f_12_279 (by decide) (by decide) (ty_120 hS.1.1) ?_
      refine Tr.gen (P := fun v => (-2147483648) ≤ v ∧ v ≤ 2147483647) (ir_120_88 hS.1.2.1) (fun r60 er60 br60 => ?_)
      exact Tr.iret (pc := 63) d_X12_ran_63 rfl ⟨hS, _, rfl, by omega, by omega⟩
    · refine Tr.tp 3 c10 ?_
      refine Tr.tswIn (pc := 10) (off := 54) (tgt := 64) d_X12_ran_10 (by decide) (by decide) rfl rfl ?_
      refine Tr.aload_n (pc := 64) (i := 0) d_X12_ran_64 rfl rfl ?_
      refine Tr.getf (pc := 65) d_X12_ran_65 f_12_282 (by decide) (by decide) (ty_120 hS.1.1) ?_
      refine Tr.gen (P := fun v => (-2147483648) ≤ v ∧ v ≤ 2147483647) (ir_120_89 hS.1.2.1) (fun r65 er65 br65 => ?_)
      exact Tr.iret (pc := 68) d_X12_ran_68 rfl ⟨hS, _, rfl, by omega, by omega⟩
    · refine Tr.tp 4 c10 ?_
      refine Tr.tswIn (pc := 10) (off := 59) (tgt := 69) d_X12_ran_10 (by decide) (by decide) rfl rfl ?_
      refine Tr.aload_n (pc := 69) (i := 0) d_X12_ran_69 rfl rfl ?_
      refine Tr.getf (pc := 70) d_X12_ran_70 f_12_285 (by decide) (by decide) (ty_120 hS.1.1) ?_
      refine Tr.gen (P := fun v => (-2147483648) ≤ v ∧ v ≤ 2147483647) (ir_120_90 hS.1.2.1) (fun r70 er70 br70 => ?_)
      exact Tr.iret (pc := 73) d_X12_ran_73 rfl ⟨hS, _, rfl, by omega, by omega⟩
    · refine Tr.tp 5 c10 ?_
      refine Tr.tswIn (pc := 10) (off := 64) (tgt := 74) d_X12_ran_10 (by decide) (by decide) rfl rfl ?_
      refine Tr.aload_n (pc := 74) (i := 0) d_X12_ran_74 rfl rfl ?_
      refine Tr.getf (pc := 75) d_X12_ran_75 f_12_288 (by decide) (by decide) (ty_120 hS.1.1) ?_
      refine Tr.gen (P := fun v => (-2147483648) ≤ v ∧ v ≤ 2147483647) (ir_120_91 hS.1.2.1) (fun r75 er75 br75 => ?_)
      exact Tr.iret (pc := 78) d_X12_ran_78 rfl ⟨hS, _, rfl, by omega, by omega⟩
  · refine Tr.iconst (pc := 7) d_X12_ran_7 (by decide) ?_
    exact Tr.iret (pc := 8) d_X12_ran_8 rfl ⟨hS, _, rfl, by omega, by omega⟩

def ws_X12_value_120 : List (Int × Int) := []
def as_X12_value_120 : List Int := []
def q_X12_value_120 (M0 M' : Mem) (r : Option PV) : Prop := St Tru ws_X12_value_120 as_X12_value_120 M0 M' ∧ ∃ v : Int, r = some (0, v) ∧ (-2147483648) ≤ v ∧ v ≤ 2147483647
set_option maxRecDepth 100000 in
set_option maxHeartbeats 4000000 in
theorem sp_X12_value_120 {l : Launch} {K : EC} {M0 : Mem} (hI : In Tru M0) (en_120_12 : rd M0 120 12 = 0) (a1 : Int) (ha1 : (-2147483648) ≤ a1 ∧ a1 ≤ 2147483647)  : Tr l K 1 mX12_value 0 [(0, (2, 120)), (1, (0, a1))] [] M0 (q_X12_value_120 M0) := by
  have hS : St Tru ws_X12_value_120 as_X12_value_120 M0 M0 := St.rf hI
  refine Tr.aload_n (pc := 0) (i := 0) d_X12_value_0 rfl rfl ?_
  refine Tr.getz (pc := 1) d_X12_value_1 f_12_270 (by decide) (ty_120 hS.1.1) ?_
  refine Tr.gen (P := fun v => 0 ≤ v ∧ v ≤ 1) (ir_120_85 hS.1.2.1) (fun r1 er1 br1 => ?_)
  refine Tr.if_eq (pc := 4) (tgt := 35) d_X12_value_4 rfl (fun c4 => ?_) (fun c4 => ?_)
  · refine Tr.ldcw (pc := 35) d_X12_value_35 k_12_640 (by decide) ?_
    exact Tr.iret (pc := 38) d_X12_value_38 rfl ⟨hS, _, rfl, by omega, by omega⟩
  · refine Tr.iload_n (pc := 7) (i := 1) d_X12_value_7 rfl rfl ?_
    refine Tr.iconst (pc := 8) d_X12_value_8 (by decide) ?_
    refine Tr.aload_n (pc := 9) (i := 0) d_X12_value_9 rfl rfl ?_
    refine Tr.getf (pc := 10) d_X12_value_10 f_12_69 (by decide) (by decide) (ty_120 hS.1.1) ?_
    refine Tr.tp 128 (fx_120_19 hS.1.1) ?_
    refine Tr.aload_n (pc := 13) (i := 0) d_X12_value_13 rfl rfl ?_
    refine Tr.getf (pc := 14) d_X12_value_14 f_12_48 (by decide) (by decide) (ty_120 hS.1.1) ?_
    refine Tr.tp 0 ((St.kp hS (by decide) (by decide) (by decide)).trans en_120_12) ?_
    refine Tr.iald (pc := 17) d_X12_value_17 (ty_128 hS.1.1) (by omega) (by omega) ?_
    refine Tr.gen (P := fun v => 0 ≤ v ∧ v ≤ 6) (ir_128_0 hS.1.2.1) (fun r17 er17 br17 => ?_)
    refine Tr.iconst (pc := 18) d_X12_value_18 (by decide) ?_
    refine Tr.isub (pc := 19) d_X12_value_19 ?_
    refine Tr.tp (r17 - 1) ((w32_id (by omega)).trans (by omega)) ?_
    refine Tr.callS (pc := 20) (as := [_, _, _]) d_X12_value_20 s_12_467 ok_X12_is rfl rfl (Nat.le_of_ble_eq_true rfl) (Nat.le_of_ble_eq_true rfl) ?_
    refine Tr.imp (Tr.deep (by decide) (sp_X12_is hS.1 a1 (by omega) 0 (by omega) (r17 - 1) (by omega))) ?_
    rintro M20 _ ⟨h20, r20, rfl, lr20, ur20, wr20⟩
    have hS := St.tr hS h20 (by decide) (by decide)
    refine Tr.sc [(0, r20)] rfl ?_
    refine Tr.if_eq (pc := 23) (tgt := 35) d_X12_value_23 rfl (fun c23 => ?_) (fun c23 => ?_)
    · refine Tr.ldcw (pc := 35) d_X12_value_35 k_12_640 (by decide) ?_
      exact Tr.iret (pc := 38) d_X12_value_38 rfl ⟨hS, _, rfl, by omega, by omega⟩
    · refine Tr.aload_n (pc := 26) (i := 0) d_X12_value_26 rfl rfl ?_
      refine Tr.getf (pc := 27) d_X12_value_27 f_12_291 (by decide) (by decide) (ty_120 hS.1.1) ?_
      refine Tr.tp 173 (fx_120_92 hS.1.1) ?_
      refine Tr.iload_n (pc := 30) (i := 1) d_X12_value_30 rfl rfl ?_
      refine Tr.iald (pc := 31) d_X12_value_31 (ty_173 hS.1.1) (by omega) (by omega) ?_
      refine Tr.gen (P := fun v => (-2147483648) ≤ v ∧ v ≤ 2147483647) (ar_173 hS.1.2.1 _) (fun r31 er31 br31 => ?_)
      refine Tr.goto (pc := 32) (tgt := 38) d_X12_value_32 rfl ?_
      exact Tr.iret (pc := 38) d_X12_value_38 rfl ⟨hS, _, rfl, by omega, by omega⟩

def ws_X12_spent_120 : List (Int × Int) := []
def as_X12_spent_120 : List Int := []
def q_X12_spent_120 (M0 M' : Mem) (r : Option PV) : Prop := St Tru ws_X12_spent_120 as_X12_spent_120 M0 M' ∧ ∃ v : Int, r = some (0, v) ∧ (-2147483648) ≤ v ∧ v ≤ 2147483647
set_option maxRecDepth 100000 in
set_option maxHeartbeats 4000000 in
theorem sp_X12_spent_120 {l : Launch} {K : EC} {M0 : Mem} (hI : In Tru M0) (en_120_12 : rd M0 120 12 = 0) (a1 : Int) (ha1 : (-2147483648) ≤ a1 ∧ a1 ≤ 2147483647) (a2 : Int) (ha2 : (-2147483648) ≤ a2 ∧ a2 ≤ 2147483647)  : Tr l K 2 mX12_spent 0 [(0, (2, 120)), (1, (0, a1)), (2, (0, a2))] [] M0 (q_X12_spent_120 M0) := by
  have hS : St Tru ws_X12_spent_120 as_X12_spent_120 M0 M0 := St.rf hI
  refine Tr.aload_n (pc := 0) (i := 0) d_X12_spent_0 rfl rfl ?_
  refine Tr.getz (pc := 1) d_X12_spent_1 f_12_270 (by decide) (ty_120 hS.1.1) ?_
  refine Tr.gen (P := fun v => 0 ≤ v ∧ v ≤ 1) (ir_120_85 hS.1.2.1) (fun r1 er1 br1 => ?_)
  refine Tr.if_eq (pc := 4) (tgt := 37) d_X12_spent_4 rfl (fun c4 => ?_) (fun c4 => ?_)
  · refine Tr.iconst (pc := 37) d_X12_spent_37 (by decide) ?_
    exact Tr.iret (pc := 38) d_X12_spent_38 rfl ⟨hS, _, rfl, by omega, by omega⟩
  · refine Tr.aload_n (pc := 7) (i := 0) d_X12_spent_7 rfl rfl ?_
    refine Tr.iload_n (pc := 8) (i := 1) d_X12_spent_8 rfl rfl ?_
    refine Tr.callV (pc := 9) (as := [_]) d_X12_spent_9 s_12_555 ok_X12_isPart rfl rfl (Nat.le_of_ble_eq_true rfl) (Nat.le_of_ble_eq_true rfl) (by decide) (ty_120 hS.1.1) ?_
    refine Tr.imp (Tr.deep (by decide) (sp_X12_isPart_120 hS.1 ((St.kp hS (by decide) (by decide) (by decide)).trans en_120_12) a1 (by omega))) ?_
    rintro M9 _ ⟨h9, r9, rfl, lr9, ur9, z9_0⟩
    have hS := St.tr hS h9 (by decide) (by decide)
    obtain ⟨w9_126_0, ew9_126_0⟩ : ∃ v, rd M9 126 0 = v := ⟨_, rfl⟩
    have bw9_126_0 : 0 ≤ w9_126_0 ∧ w9_126_0 ≤ 6 := by rw [← ew9_126_0]; exact ir_126_0 hS.1.2.1
    have ka9_126_0 : rd M9 126 0 = w9_126_0 := ew9_126_0
    refine Tr.sc [(0, r9)] rfl ?_
    refine Tr.if_eq (pc := 12) (tgt := 37) d_X12_spent_12 rfl (fun c12 => ?_) (fun c12 => ?_)
    · refine Tr.iconst (pc := 37) d_X12_spent_37 (by decide) ?_
      exact Tr.iret (pc := 38) d_X12_spent_38 rfl ⟨hS, _, rfl, by omega, by omega⟩
    · refine Tr.iload_n (pc := 15) (i := 2) d_X12_spent_15 rfl rfl ?_
      refine Tr.iconst (pc := 16) d_X12_spent_16 (by decide) ?_
      refine Tr.iconst (pc := 17) d_X12_spent_17 (by decide) ?_
      refine Tr.callS (pc := 18) (as := [_, _, _]) d_X12_spent_18 s_12_467 ok_X12_is rfl rfl (Nat.le_of_ble_eq_true rfl) (Nat.le_of_ble_eq_true rfl) ?_
      refine Tr.imp (Tr.deep (by decide) (sp_X12_is hS.1 a2 (by omega) 0 (by omega) 3 (by omega))) ?_
      rintro M18 _ ⟨h18, r18, rfl, lr18, ur18, wr18⟩
      have hS := St.tr hS h18 (by decide) (by decide)
      refine Tr.sc [(0, r18)] rfl ?_
      refine Tr.if_eq (pc := 21) (tgt := 37) d_X12_spent_21 rfl (fun c21 => ?_) (fun c21 => ?_)
      · refine Tr.iconst (pc := 37) d_X12_spent_37 (by decide) ?_
        exact Tr.iret (pc := 38) d_X12_spent_38 rfl ⟨hS, _, rfl, by omega, by omega⟩
      · refine Tr.aload_n (pc := 24) (i := 0) d_X12_spent_24 rfl rfl ?_
        refine Tr.getf (pc := 25) d_X12_spent_25 f_12_294 (by decide) (by decide) (ty_120 hS.1.1) ?_
        refine Tr.tp 174 (fx_120_93 hS.1.1) ?_
        refine Tr.iconst (pc := 28) d_X12_spent_28 (by decide) ?_
        refine Tr.iload_n (pc := 29) (i := 1) d_X12_spent_29 rfl rfl ?_
        refine Tr.imul (pc := 30) d_X12_spent_30 ?_
        refine Tr.tp (4 * a1) ((w32_id (by omega)).trans (by omega)) ?_
        refine Tr.iload_n (pc := 31) (i := 2) d_X12_spent_31 rfl rfl ?_
        refine Tr.iadd (pc := 32) d_X12_spent_32 ?_
        refine Tr.tp (4 * a1 + a2) ((w32_id (by omega)).trans (by omega)) ?_
        refine Tr.iald (pc := 33) d_X12_spent_33 (ty_174 hS.1.1) (by omega) (by omega) ?_
        refine Tr.gen (P := fun v => (-2147483648) ≤ v ∧ v ≤ 2147483647) (ar_174 hS.1.2.1 _) (fun r33 er33 br33 => ?_)
        refine Tr.goto (pc := 34) (tgt := 38) d_X12_spent_34 rfl ?_
        exact Tr.iret (pc := 38) d_X12_spent_38 rfl ⟨hS, _, rfl, by omega, by omega⟩
end
