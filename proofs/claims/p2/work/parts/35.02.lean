theorem d_X12_sharesOf_0 : decode mX12_sharesOf.2.2.1 0 = .ok (.lconst 0, 1) := by decide +kernel
theorem d_X12_sharesOf_1 : decode mX12_sharesOf.2.2.1 1 = .ok (.lstore_n 3, 1) := by decide +kernel
theorem d_X12_sharesOf_2 : decode mX12_sharesOf.2.2.1 2 = .ok (.iconst 1, 1) := by decide +kernel
theorem d_X12_sharesOf_3 : decode mX12_sharesOf.2.2.1 3 = .ok (.istore 5, 2) := by decide +kernel
theorem d_X12_sharesOf_5 : decode mX12_sharesOf.2.2.1 5 = .ok (.iconst 0, 1) := by decide +kernel
theorem d_X12_sharesOf_6 : decode mX12_sharesOf.2.2.1 6 = .ok (.istore 6, 2) := by decide +kernel
theorem d_X12_sharesOf_8 : decode mX12_sharesOf.2.2.1 8 = .ok (.iload 5, 2) := by decide +kernel
theorem d_X12_sharesOf_10 : decode mX12_sharesOf.2.2.1 10 = .ok (.ifCond .eq 107, 3) := by decide +kernel
theorem d_X12_sharesOf_13 : decode mX12_sharesOf.2.2.1 13 = .ok (.aload_n 0, 1) := by decide +kernel
theorem d_X12_sharesOf_14 : decode mX12_sharesOf.2.2.1 14 = .ok (.iload_n 1, 1) := by decide +kernel
theorem d_X12_sharesOf_15 : decode mX12_sharesOf.2.2.1 15 = .ok (.iload 6, 2) := by decide +kernel
theorem d_X12_sharesOf_17 : decode mX12_sharesOf.2.2.1 17 = .ok (.invokevirtual 644, 3) := by decide +kernel
def mX12_finds : MD := (12, yX12_finds, cX12_finds, 5, some .boolean)
theorem sel_X12_finds : Cond.instanceMethod mX12_finds.2.1 ∈ tblG ∧ Cond.selects mX12_finds.2.1.cls mX12_finds.2.1 mX12_finds.2.1 ∈ tblG := ⟨tblG_in (inT9 (List.mem_of_getElem? (i := 152) rfl)) rfl, tblG_in (inP8 (q := (mX12_finds.2.1, 121)) (List.mem_of_getElem? (i := 11) rfl)) rfl⟩
theorem s_12_644 : e_siteV 12 644 mX12_finds 12 := ⟨tblG_in (inT9 (List.mem_of_getElem? (i := 150) rfl)) rfl, sel_X12_finds.1, sel_X12_finds.2, rfl⟩
theorem d_X12_finds_0 : decode mX12_finds.2.2.1 0 = .ok (.iconst 0, 1) := by decide +kernel
theorem d_X12_finds_1 : decode mX12_finds.2.2.1 1 = .ok (.istore_n 3, 1) := by decide +kernel
theorem d_X12_finds_2 : decode mX12_finds.2.2.1 2 = .ok (.iconst 0, 1) := by decide +kernel
theorem d_X12_finds_3 : decode mX12_finds.2.2.1 3 = .ok (.istore 4, 2) := by decide +kernel
theorem d_X12_finds_5 : decode mX12_finds.2.2.1 5 = .ok (.iload 4, 2) := by decide +kernel
theorem d_X12_finds_7 : decode mX12_finds.2.2.1 7 = .ok (.aload_n 0, 1) := by decide +kernel
theorem d_X12_finds_8 : decode mX12_finds.2.2.1 8 = .ok (.getfield 273, 3) := by decide +kernel
theorem d_X12_finds_11 : decode mX12_finds.2.2.1 11 = .ok (.if_icmp .ge 69, 3) := by decide +kernel
theorem d_X12_finds_80 : decode mX12_finds.2.2.1 80 = .ok (.aload_n 0, 1) := by decide +kernel
theorem d_X12_finds_81 : decode mX12_finds.2.2.1 81 = .ok (.iload_n 3, 1) := by decide +kernel
theorem d_X12_finds_82 : decode mX12_finds.2.2.1 82 = .ok (.putfield 312, 3) := by decide +kernel
theorem d_X12_finds_85 : decode mX12_finds.2.2.1 85 = .ok (.iconst 0, 1) := by decide +kernel
theorem d_X12_finds_86 : decode mX12_finds.2.2.1 86 = .ok (.ireturn, 1) := by decide +kernel
theorem d_X12_finds_14 : decode mX12_finds.2.2.1 14 = .ok (.aload_n 0, 1) := by decide +kernel
theorem d_X12_finds_15 : decode mX12_finds.2.2.1 15 = .ok (.iload_n 1, 1) := by decide +kernel
theorem d_X12_finds_16 : decode mX12_finds.2.2.1 16 = .ok (.iload 4, 2) := by decide +kernel
theorem d_X12_finds_18 : decode mX12_finds.2.2.1 18 = .ok (.invokevirtual 641, 3) := by decide +kernel
def mX12_stateAt : MD := (12, yX12_stateAt, cX12_stateAt, 3, some .int)
theorem sel_X12_stateAt : Cond.instanceMethod mX12_stateAt.2.1 ∈ tblG ∧ Cond.selects mX12_stateAt.2.1.cls mX12_stateAt.2.1 mX12_stateAt.2.1 ∈ tblG := ⟨tblG_in (inT9 (List.mem_of_getElem? (i := 156) rfl)) rfl, tblG_in (inP8 (q := (mX12_stateAt.2.1, 121)) (List.mem_of_getElem? (i := 12) rfl)) rfl⟩
theorem s_12_641 : e_siteV 12 641 mX12_stateAt 12 := ⟨tblG_in (inT9 (List.mem_of_getElem? (i := 154) rfl)) rfl, sel_X12_stateAt.1, sel_X12_stateAt.2, rfl⟩
theorem d_X12_stateAt_0 : decode mX12_stateAt.2.2.1 0 = .ok (.aload_n 0, 1) := by decide +kernel
theorem d_X12_stateAt_1 : decode mX12_stateAt.2.2.1 1 = .ok (.getfield 231, 3) := by decide +kernel
theorem d_X12_stateAt_4 : decode mX12_stateAt.2.2.1 4 = .ok (.sipush 2100, 3) := by decide +kernel
theorem d_X12_stateAt_7 : decode mX12_stateAt.2.2.1 7 = .ok (.iload_n 1, 1) := by decide +kernel
theorem d_X12_stateAt_8 : decode mX12_stateAt.2.2.1 8 = .ok (.imul, 1) := by decide +kernel
theorem d_X12_stateAt_9 : decode mX12_stateAt.2.2.1 9 = .ok (.iload_n 2, 1) := by decide +kernel
theorem d_X12_stateAt_10 : decode mX12_stateAt.2.2.1 10 = .ok (.iadd, 1) := by decide +kernel
theorem d_X12_stateAt_11 : decode mX12_stateAt.2.2.1 11 = .ok (.iaload, 1) := by decide +kernel
theorem d_X12_stateAt_12 : decode mX12_stateAt.2.2.1 12 = .ok (.ireturn, 1) := by decide +kernel
theorem ok_X12_stateAt : e_m mX12_stateAt 2 := ⟨tblG_in (inT9 (List.mem_of_getElem? (i := 157) rfl)) rfl, plainFor_of_name (by decide), rfl, ini_12, by decide +kernel, by decide⟩
theorem d_X12_finds_21 : decode mX12_finds.2.2.1 21 = .ok (.ifCond .ne 9, 3) := by decide +kernel
theorem d_X12_finds_30 : decode mX12_finds.2.2.1 30 = .ok (.aload_n 0, 1) := by decide +kernel
theorem d_X12_finds_31 : decode mX12_finds.2.2.1 31 = .ok (.iload 4, 2) := by decide +kernel
theorem d_X12_finds_33 : decode mX12_finds.2.2.1 33 = .ok (.putfield 306, 3) := by decide +kernel
theorem d_X12_finds_24 : decode mX12_finds.2.2.1 24 = .ok (.iinc 4 1, 3) := by decide +kernel
theorem d_X12_finds_27 : decode mX12_finds.2.2.1 27 = .ok (.goto (-22), 3) := by decide +kernel
theorem d_X12_finds_36 : decode mX12_finds.2.2.1 36 = .ok (.iload 4, 2) := by decide +kernel
theorem d_X12_finds_38 : decode mX12_finds.2.2.1 38 = .ok (.aload_n 0, 1) := by decide +kernel
theorem d_X12_finds_39 : decode mX12_finds.2.2.1 39 = .ok (.getfield 273, 3) := by decide +kernel
theorem d_X12_finds_42 : decode mX12_finds.2.2.1 42 = .ok (.if_icmp .ge 19, 3) := by decide +kernel
theorem d_X12_finds_45 : decode mX12_finds.2.2.1 45 = .ok (.aload_n 0, 1) := by decide +kernel
theorem d_X12_finds_46 : decode mX12_finds.2.2.1 46 = .ok (.iload_n 1, 1) := by decide +kernel
theorem d_X12_finds_47 : decode mX12_finds.2.2.1 47 = .ok (.iload 4, 2) := by decide +kernel
theorem d_X12_finds_49 : decode mX12_finds.2.2.1 49 = .ok (.invokevirtual 641, 3) := by decide +kernel
theorem d_X12_finds_52 : decode mX12_finds.2.2.1 52 = .ok (.ifCond .eq 9, 3) := by decide +kernel
theorem d_X12_finds_55 : decode mX12_finds.2.2.1 55 = .ok (.iinc 4 1, 3) := by decide +kernel
theorem d_X12_finds_58 : decode mX12_finds.2.2.1 58 = .ok (.goto (-22), 3) := by decide +kernel
theorem d_X12_finds_61 : decode mX12_finds.2.2.1 61 = .ok (.aload_n 0, 1) := by decide +kernel
theorem d_X12_finds_62 : decode mX12_finds.2.2.1 62 = .ok (.iload 4, 2) := by decide +kernel
theorem d_X12_finds_64 : decode mX12_finds.2.2.1 64 = .ok (.putfield 309, 3) := by decide +kernel
theorem d_X12_finds_67 : decode mX12_finds.2.2.1 67 = .ok (.iload_n 3, 1) := by decide +kernel
theorem d_X12_finds_68 : decode mX12_finds.2.2.1 68 = .ok (.iload_n 2, 1) := by decide +kernel
theorem d_X12_finds_69 : decode mX12_finds.2.2.1 69 = .ok (.if_icmp .ne 5, 3) := by decide +kernel
theorem d_X12_finds_74 : decode mX12_finds.2.2.1 74 = .ok (.iinc 3 1, 3) := by decide +kernel
theorem d_X12_finds_77 : decode mX12_finds.2.2.1 77 = .ok (.goto (-72), 3) := by decide +kernel
theorem d_X12_finds_72 : decode mX12_finds.2.2.1 72 = .ok (.iconst 1, 1) := by decide +kernel
theorem d_X12_finds_73 : decode mX12_finds.2.2.1 73 = .ok (.ireturn, 1) := by decide +kernel
theorem ok_X12_finds : e_m mX12_finds 2 := ⟨tblG_in (inT9 (List.mem_of_getElem? (i := 153) rfl)) rfl, plainFor_of_name (by decide), rfl, ini_12, by decide +kernel, by decide⟩
theorem d_X12_sharesOf_20 : decode mX12_sharesOf.2.2.1 20 = .ok (.istore 5, 2) := by decide +kernel
theorem d_X12_sharesOf_22 : decode mX12_sharesOf.2.2.1 22 = .ok (.iload 5, 2) := by decide +kernel
theorem d_X12_sharesOf_24 : decode mX12_sharesOf.2.2.1 24 = .ok (.ifCond .ne 6, 3) := by decide +kernel
theorem d_X12_sharesOf_30 : decode mX12_sharesOf.2.2.1 30 = .ok (.aload_n 0, 1) := by decide +kernel
theorem d_X12_sharesOf_31 : decode mX12_sharesOf.2.2.1 31 = .ok (.iload_n 1, 1) := by decide +kernel
theorem d_X12_sharesOf_32 : decode mX12_sharesOf.2.2.1 32 = .ok (.invokevirtual 650, 3) := by decide +kernel
def mX12_linesIn : MD := (12, yX12_linesIn, cX12_linesIn, 5, some .long)
theorem sel_X12_linesIn : Cond.instanceMethod mX12_linesIn.2.1 ∈ tblG ∧ Cond.selects mX12_linesIn.2.1.cls mX12_linesIn.2.1 mX12_linesIn.2.1 ∈ tblG := ⟨tblG_in (inT9 (List.mem_of_getElem? (i := 172) rfl)) rfl, tblG_in (inP8 (q := (mX12_linesIn.2.1, 121)) (List.mem_of_getElem? (i := 14) rfl)) rfl⟩
theorem s_12_650 : e_siteV 12 650 mX12_linesIn 12 := ⟨tblG_in (inT9 (List.mem_of_getElem? (i := 170) rfl)) rfl, sel_X12_linesIn.1, sel_X12_linesIn.2, rfl⟩
theorem d_X12_linesIn_0 : decode mX12_linesIn.2.2.1 0 = .ok (.lconst 0, 1) := by decide +kernel
theorem d_X12_linesIn_1 : decode mX12_linesIn.2.2.1 1 = .ok (.lstore_n 2, 1) := by decide +kernel
theorem d_X12_linesIn_2 : decode mX12_linesIn.2.2.1 2 = .ok (.iconst 0, 1) := by decide +kernel
theorem d_X12_linesIn_3 : decode mX12_linesIn.2.2.1 3 = .ok (.istore 4, 2) := by decide +kernel
theorem d_X12_linesIn_5 : decode mX12_linesIn.2.2.1 5 = .ok (.iload 4, 2) := by decide +kernel
theorem d_X12_linesIn_7 : decode mX12_linesIn.2.2.1 7 = .ok (.aload_n 0, 1) := by decide +kernel
theorem d_X12_linesIn_8 : decode mX12_linesIn.2.2.1 8 = .ok (.getfield 300, 3) := by decide +kernel
theorem d_X12_linesIn_11 : decode mX12_linesIn.2.2.1 11 = .ok (.if_icmp .ge 62, 3) := by decide +kernel
theorem d_X12_linesIn_73 : decode mX12_linesIn.2.2.1 73 = .ok (.lload_n 2, 1) := by decide +kernel
theorem d_X12_linesIn_74 : decode mX12_linesIn.2.2.1 74 = .ok (.lreturn, 1) := by decide +kernel
theorem d_X12_linesIn_14 : decode mX12_linesIn.2.2.1 14 = .ok (.aload_n 0, 1) := by decide +kernel
theorem d_X12_linesIn_15 : decode mX12_linesIn.2.2.1 15 = .ok (.getfield 243, 3) := by decide +kernel
theorem d_X12_linesIn_18 : decode mX12_linesIn.2.2.1 18 = .ok (.iload 4, 2) := by decide +kernel
theorem d_X12_linesIn_20 : decode mX12_linesIn.2.2.1 20 = .ok (.iaload, 1) := by decide +kernel
theorem d_X12_linesIn_21 : decode mX12_linesIn.2.2.1 21 = .ok (.iload_n 1, 1) := by decide +kernel
theorem d_X12_linesIn_22 : decode mX12_linesIn.2.2.1 22 = .ok (.if_icmp .ne 45, 3) := by decide +kernel
theorem d_X12_linesIn_25 : decode mX12_linesIn.2.2.1 25 = .ok (.aload_n 0, 1) := by decide +kernel
theorem d_X12_linesIn_26 : decode mX12_linesIn.2.2.1 26 = .ok (.getfield 249, 3) := by decide +kernel
theorem d_X12_linesIn_29 : decode mX12_linesIn.2.2.1 29 = .ok (.iload 4, 2) := by decide +kernel
theorem d_X12_linesIn_31 : decode mX12_linesIn.2.2.1 31 = .ok (.iaload, 1) := by decide +kernel
theorem d_X12_linesIn_32 : decode mX12_linesIn.2.2.1 32 = .ok (.aload_n 0, 1) := by decide +kernel
theorem d_X12_linesIn_33 : decode mX12_linesIn.2.2.1 33 = .ok (.getfield 306, 3) := by decide +kernel
theorem d_X12_linesIn_36 : decode mX12_linesIn.2.2.1 36 = .ok (.iconst 1, 1) := by decide +kernel
theorem d_X12_linesIn_37 : decode mX12_linesIn.2.2.1 37 = .ok (.isub, 1) := by decide +kernel
theorem d_X12_linesIn_38 : decode mX12_linesIn.2.2.1 38 = .ok (.if_icmp .lt 29, 3) := by decide +kernel
theorem d_X12_linesIn_41 : decode mX12_linesIn.2.2.1 41 = .ok (.aload_n 0, 1) := by decide +kernel
theorem d_X12_linesIn_42 : decode mX12_linesIn.2.2.1 42 = .ok (.getfield 249, 3) := by decide +kernel
theorem d_X12_linesIn_45 : decode mX12_linesIn.2.2.1 45 = .ok (.iload 4, 2) := by decide +kernel
theorem d_X12_linesIn_47 : decode mX12_linesIn.2.2.1 47 = .ok (.iaload, 1) := by decide +kernel
theorem d_X12_linesIn_48 : decode mX12_linesIn.2.2.1 48 = .ok (.aload_n 0, 1) := by decide +kernel
theorem d_X12_linesIn_49 : decode mX12_linesIn.2.2.1 49 = .ok (.getfield 309, 3) := by decide +kernel
theorem d_X12_linesIn_52 : decode mX12_linesIn.2.2.1 52 = .ok (.if_icmp .ge 15, 3) := by decide +kernel
theorem d_X12_linesIn_55 : decode mX12_linesIn.2.2.1 55 = .ok (.lload_n 2, 1) := by decide +kernel
theorem d_X12_linesIn_56 : decode mX12_linesIn.2.2.1 56 = .ok (.lconst 1, 1) := by decide +kernel
theorem d_X12_linesIn_57 : decode mX12_linesIn.2.2.1 57 = .ok (.aload_n 0, 1) := by decide +kernel
theorem d_X12_linesIn_58 : decode mX12_linesIn.2.2.1 58 = .ok (.getfield 246, 3) := by decide +kernel
theorem d_X12_linesIn_61 : decode mX12_linesIn.2.2.1 61 = .ok (.iload 4, 2) := by decide +kernel
theorem d_X12_linesIn_63 : decode mX12_linesIn.2.2.1 63 = .ok (.iaload, 1) := by decide +kernel
theorem d_X12_linesIn_64 : decode mX12_linesIn.2.2.1 64 = .ok (.lshl, 1) := by decide +kernel
theorem d_X12_linesIn_65 : decode mX12_linesIn.2.2.1 65 = .ok (.lor, 1) := by decide +kernel
theorem d_X12_linesIn_66 : decode mX12_linesIn.2.2.1 66 = .ok (.lstore_n 2, 1) := by decide +kernel
theorem d_X12_linesIn_67 : decode mX12_linesIn.2.2.1 67 = .ok (.iinc 4 1, 3) := by decide +kernel
theorem d_X12_linesIn_70 : decode mX12_linesIn.2.2.1 70 = .ok (.goto (-65), 3) := by decide +kernel
theorem ok_X12_linesIn : e_m mX12_linesIn 1 := ⟨tblG_in (inT9 (List.mem_of_getElem? (i := 173) rfl)) rfl, plainFor_of_name (by decide), rfl, ini_12, by decide +kernel, by decide⟩
theorem d_X12_sharesOf_35 : decode mX12_sharesOf.2.2.1 35 = .ok (.lstore 7, 2) := by decide +kernel
theorem d_X12_sharesOf_37 : decode mX12_sharesOf.2.2.1 37 = .ok (.lload 7, 2) := by decide +kernel
theorem d_X12_sharesOf_39 : decode mX12_sharesOf.2.2.1 39 = .ok (.iload_n 2, 1) := by decide +kernel
theorem d_X12_sharesOf_40 : decode mX12_sharesOf.2.2.1 40 = .ok (.lshr, 1) := by decide +kernel
theorem d_X12_sharesOf_41 : decode mX12_sharesOf.2.2.1 41 = .ok (.lconst 1, 1) := by decide +kernel
theorem d_X12_sharesOf_42 : decode mX12_sharesOf.2.2.1 42 = .ok (.land, 1) := by decide +kernel
theorem d_X12_sharesOf_43 : decode mX12_sharesOf.2.2.1 43 = .ok (.lconst 0, 1) := by decide +kernel
theorem d_X12_sharesOf_44 : decode mX12_sharesOf.2.2.1 44 = .ok (.lcmp, 1) := by decide +kernel
theorem d_X12_sharesOf_45 : decode mX12_sharesOf.2.2.1 45 = .ok (.ifCond .ne 6, 3) := by decide +kernel
theorem d_X12_sharesOf_51 : decode mX12_sharesOf.2.2.1 51 = .ok (.lload 7, 2) := by decide +kernel
theorem d_X12_sharesOf_53 : decode mX12_sharesOf.2.2.1 53 = .ok (.invokestatic 653, 3) := by decide +kernel
def mX12_bitsOf : MD := (12, yX12_bitsOf, cX12_bitsOf, 5, some .int)
theorem s_12_653 : e_siteS 12 653 mX12_bitsOf := ⟨tblG_in (inT9 (List.mem_of_getElem? (i := 186) rfl)) rfl, tblG_in (inT9 (List.mem_of_getElem? (i := 187) rfl)) rfl⟩
theorem d_X12_bitsOf_0 : decode mX12_bitsOf.2.2.1 0 = .ok (.iconst 0, 1) := by decide +kernel
theorem d_X12_bitsOf_1 : decode mX12_bitsOf.2.2.1 1 = .ok (.istore_n 2, 1) := by decide +kernel
theorem d_X12_bitsOf_2 : decode mX12_bitsOf.2.2.1 2 = .ok (.lload_n 0, 1) := by decide +kernel
theorem d_X12_bitsOf_3 : decode mX12_bitsOf.2.2.1 3 = .ok (.lstore_n 3, 1) := by decide +kernel
theorem d_X12_bitsOf_4 : decode mX12_bitsOf.2.2.1 4 = .ok (.lload_n 3, 1) := by decide +kernel
theorem d_X12_bitsOf_5 : decode mX12_bitsOf.2.2.1 5 = .ok (.lconst 0, 1) := by decide +kernel
theorem d_X12_bitsOf_6 : decode mX12_bitsOf.2.2.1 6 = .ok (.lcmp, 1) := by decide +kernel
theorem d_X12_bitsOf_7 : decode mX12_bitsOf.2.2.1 7 = .ok (.ifCond .eq 17, 3) := by decide +kernel
theorem d_X12_bitsOf_24 : decode mX12_bitsOf.2.2.1 24 = .ok (.iload_n 2, 1) := by decide +kernel
theorem d_X12_bitsOf_25 : decode mX12_bitsOf.2.2.1 25 = .ok (.ireturn, 1) := by decide +kernel
theorem d_X12_bitsOf_10 : decode mX12_bitsOf.2.2.1 10 = .ok (.iload_n 2, 1) := by decide +kernel
theorem d_X12_bitsOf_11 : decode mX12_bitsOf.2.2.1 11 = .ok (.lload_n 3, 1) := by decide +kernel
theorem d_X12_bitsOf_12 : decode mX12_bitsOf.2.2.1 12 = .ok (.lconst 1, 1) := by decide +kernel
theorem d_X12_bitsOf_13 : decode mX12_bitsOf.2.2.1 13 = .ok (.land, 1) := by decide +kernel
theorem d_X12_bitsOf_14 : decode mX12_bitsOf.2.2.1 14 = .ok (.l2i, 1) := by decide +kernel
theorem d_X12_bitsOf_15 : decode mX12_bitsOf.2.2.1 15 = .ok (.iadd, 1) := by decide +kernel
theorem d_X12_bitsOf_16 : decode mX12_bitsOf.2.2.1 16 = .ok (.istore_n 2, 1) := by decide +kernel
theorem d_X12_bitsOf_17 : decode mX12_bitsOf.2.2.1 17 = .ok (.lload_n 3, 1) := by decide +kernel
theorem d_X12_bitsOf_18 : decode mX12_bitsOf.2.2.1 18 = .ok (.iconst 1, 1) := by decide +kernel
theorem d_X12_bitsOf_19 : decode mX12_bitsOf.2.2.1 19 = .ok (.lushr, 1) := by decide +kernel
theorem d_X12_bitsOf_20 : decode mX12_bitsOf.2.2.1 20 = .ok (.lstore_n 3, 1) := by decide +kernel
theorem d_X12_bitsOf_21 : decode mX12_bitsOf.2.2.1 21 = .ok (.goto (-17), 3) := by decide +kernel
theorem ok_X12_bitsOf : e_m mX12_bitsOf 1 := ⟨tblG_in (inT9 (List.mem_of_getElem? (i := 188) rfl)) rfl, plainFor_of_name (by decide), rfl, ini_12, by decide +kernel, by decide⟩
theorem d_X12_sharesOf_56 : decode mX12_sharesOf.2.2.1 56 = .ok (.istore 9, 2) := by decide +kernel
theorem d_X12_sharesOf_58 : decode mX12_sharesOf.2.2.1 58 = .ok (.aload_n 0, 1) := by decide +kernel
theorem d_X12_sharesOf_59 : decode mX12_sharesOf.2.2.1 59 = .ok (.iload_n 1, 1) := by decide +kernel
theorem d_X12_sharesOf_60 : decode mX12_sharesOf.2.2.1 60 = .ok (.invokevirtual 647, 3) := by decide +kernel
def mX12_onIn : MD := (12, yX12_onIn, cX12_onIn, 4, some .int)
theorem sel_X12_onIn : Cond.instanceMethod mX12_onIn.2.1 ∈ tblG ∧ Cond.selects mX12_onIn.2.1.cls mX12_onIn.2.1 mX12_onIn.2.1 ∈ tblG := ⟨tblG_in (inT9 (List.mem_of_getElem? (i := 164) rfl)) rfl, tblG_in (inP8 (q := (mX12_onIn.2.1, 121)) (List.mem_of_getElem? (i := 13) rfl)) rfl⟩
theorem s_12_647 : e_siteV 12 647 mX12_onIn 12 := ⟨tblG_in (inT9 (List.mem_of_getElem? (i := 162) rfl)) rfl, sel_X12_onIn.1, sel_X12_onIn.2, rfl⟩
theorem d_X12_onIn_0 : decode mX12_onIn.2.2.1 0 = .ok (.iconst 0, 1) := by decide +kernel
theorem d_X12_onIn_1 : decode mX12_onIn.2.2.1 1 = .ok (.istore_n 2, 1) := by decide +kernel
theorem d_X12_onIn_2 : decode mX12_onIn.2.2.1 2 = .ok (.aload_n 0, 1) := by decide +kernel
theorem d_X12_onIn_3 : decode mX12_onIn.2.2.1 3 = .ok (.getfield 306, 3) := by decide +kernel
theorem d_X12_onIn_6 : decode mX12_onIn.2.2.1 6 = .ok (.istore_n 3, 1) := by decide +kernel
theorem d_X12_onIn_7 : decode mX12_onIn.2.2.1 7 = .ok (.iload_n 3, 1) := by decide +kernel
theorem d_X12_onIn_8 : decode mX12_onIn.2.2.1 8 = .ok (.aload_n 0, 1) := by decide +kernel
theorem d_X12_onIn_9 : decode mX12_onIn.2.2.1 9 = .ok (.getfield 309, 3) := by decide +kernel
theorem d_X12_onIn_12 : decode mX12_onIn.2.2.1 12 = .ok (.if_icmp .ge 27, 3) := by decide +kernel
theorem d_X12_onIn_39 : decode mX12_onIn.2.2.1 39 = .ok (.iload_n 2, 1) := by decide +kernel
theorem d_X12_onIn_40 : decode mX12_onIn.2.2.1 40 = .ok (.ireturn, 1) := by decide +kernel
theorem d_X12_onIn_15 : decode mX12_onIn.2.2.1 15 = .ok (.iload_n 2, 1) := by decide +kernel
theorem d_X12_onIn_16 : decode mX12_onIn.2.2.1 16 = .ok (.aload_n 0, 1) := by decide +kernel
theorem d_X12_onIn_17 : decode mX12_onIn.2.2.1 17 = .ok (.iload_n 1, 1) := by decide +kernel
theorem d_X12_onIn_18 : decode mX12_onIn.2.2.1 18 = .ok (.iload_n 3, 1) := by decide +kernel
theorem d_X12_onIn_19 : decode mX12_onIn.2.2.1 19 = .ok (.invokevirtual 641, 3) := by decide +kernel
theorem d_X12_onIn_22 : decode mX12_onIn.2.2.1 22 = .ok (.iconst 2, 1) := by decide +kernel
theorem d_X12_onIn_23 : decode mX12_onIn.2.2.1 23 = .ok (.if_icmp .ne 7, 3) := by decide +kernel
theorem d_X12_onIn_30 : decode mX12_onIn.2.2.1 30 = .ok (.iconst 0, 1) := by decide +kernel
theorem d_X12_onIn_26 : decode mX12_onIn.2.2.1 26 = .ok (.iconst 1, 1) := by decide +kernel
theorem d_X12_onIn_27 : decode mX12_onIn.2.2.1 27 = .ok (.goto 4, 3) := by decide +kernel
theorem d_X12_onIn_31 : decode mX12_onIn.2.2.1 31 = .ok (.iadd, 1) := by decide +kernel
theorem d_X12_onIn_32 : decode mX12_onIn.2.2.1 32 = .ok (.istore_n 2, 1) := by decide +kernel
theorem d_X12_onIn_33 : decode mX12_onIn.2.2.1 33 = .ok (.iinc 3 1, 3) := by decide +kernel
theorem d_X12_onIn_36 : decode mX12_onIn.2.2.1 36 = .ok (.goto (-29), 3) := by decide +kernel
theorem ok_X12_onIn : e_m mX12_onIn 1 := ⟨tblG_in (inT9 (List.mem_of_getElem? (i := 165) rfl)) rfl, plainFor_of_name (by decide), rfl, ini_12, by decide +kernel, by decide⟩
theorem d_X12_sharesOf_63 : decode mX12_sharesOf.2.2.1 63 = .ok (.i2l, 1) := by decide +kernel
theorem d_X12_sharesOf_64 : decode mX12_sharesOf.2.2.1 64 = .ok (.aload_n 0, 1) := by decide +kernel
theorem d_X12_sharesOf_65 : decode mX12_sharesOf.2.2.1 65 = .ok (.iload_n 1, 1) := by decide +kernel
theorem d_X12_sharesOf_66 : decode mX12_sharesOf.2.2.1 66 = .ok (.iconst 3, 1) := by decide +kernel
theorem d_X12_sharesOf_67 : decode mX12_sharesOf.2.2.1 67 = .ok (.invokevirtual 565, 3) := by decide +kernel
def mX12_rate : MD := (12, yX12_rate, cX12_rate, 3, some .int)
theorem sel_X12_rate : Cond.instanceMethod mX12_rate.2.1 ∈ tblG ∧ Cond.selects mX12_rate.2.1.cls mX12_rate.2.1 mX12_rate.2.1 ∈ tblG := ⟨tblG_in (inT9 (List.mem_of_getElem? (i := 72) rfl)) rfl, tblG_in (inP7 (q := (mX12_rate.2.1, 121)) (List.mem_of_getElem? (i := 15) rfl)) rfl⟩
theorem s_12_565 : e_siteV 12 565 mX12_rate 12 := ⟨tblG_in (inT9 (List.mem_of_getElem? (i := 70) rfl)) rfl, sel_X12_rate.1, sel_X12_rate.2, rfl⟩
theorem d_X12_rate_0 : decode mX12_rate.2.2.1 0 = .ok (.aload_n 0, 1) := by decide +kernel
theorem d_X12_rate_1 : decode mX12_rate.2.2.1 1 = .ok (.getfield 79, 3) := by decide +kernel
theorem d_X12_rate_4 : decode mX12_rate.2.2.1 4 = .ok (.bipush 6, 2) := by decide +kernel
theorem d_X12_rate_6 : decode mX12_rate.2.2.1 6 = .ok (.bipush 6, 2) := by decide +kernel
theorem d_X12_rate_8 : decode mX12_rate.2.2.1 8 = .ok (.aload_n 0, 1) := by decide +kernel
theorem d_X12_rate_9 : decode mX12_rate.2.2.1 9 = .ok (.getfield 48, 3) := by decide +kernel
theorem d_X12_rate_12 : decode mX12_rate.2.2.1 12 = .ok (.imul, 1) := by decide +kernel
theorem d_X12_rate_13 : decode mX12_rate.2.2.1 13 = .ok (.iload_n 1, 1) := by decide +kernel
theorem d_X12_rate_14 : decode mX12_rate.2.2.1 14 = .ok (.iadd, 1) := by decide +kernel
theorem d_X12_rate_15 : decode mX12_rate.2.2.1 15 = .ok (.imul, 1) := by decide +kernel
theorem d_X12_rate_16 : decode mX12_rate.2.2.1 16 = .ok (.iload_n 2, 1) := by decide +kernel
theorem d_X12_rate_17 : decode mX12_rate.2.2.1 17 = .ok (.iadd, 1) := by decide +kernel
theorem d_X12_rate_18 : decode mX12_rate.2.2.1 18 = .ok (.iaload, 1) := by decide +kernel
theorem d_X12_rate_19 : decode mX12_rate.2.2.1 19 = .ok (.ireturn, 1) := by decide +kernel
theorem ok_X12_rate : e_m mX12_rate 2 := ⟨tblG_in (inT9 (List.mem_of_getElem? (i := 73) rfl)) rfl, plainFor_of_name (by decide), rfl, ini_12, by decide +kernel, by decide⟩
theorem d_X12_sharesOf_70 : decode mX12_sharesOf.2.2.1 70 = .ok (.i2l, 1) := by decide +kernel
theorem d_X12_sharesOf_71 : decode mX12_sharesOf.2.2.1 71 = .ok (.lmul, 1) := by decide +kernel
theorem d_X12_sharesOf_72 : decode mX12_sharesOf.2.2.1 72 = .ok (.lstore 10, 2) := by decide +kernel
theorem d_X12_sharesOf_74 : decode mX12_sharesOf.2.2.1 74 = .ok (.lload_n 3, 1) := by decide +kernel
theorem d_X12_sharesOf_75 : decode mX12_sharesOf.2.2.1 75 = .ok (.lload 10, 2) := by decide +kernel
theorem d_X12_sharesOf_77 : decode mX12_sharesOf.2.2.1 77 = .ok (.iload 9, 2) := by decide +kernel
theorem d_X12_sharesOf_79 : decode mX12_sharesOf.2.2.1 79 = .ok (.i2l, 1) := by decide +kernel
theorem d_X12_sharesOf_80 : decode mX12_sharesOf.2.2.1 80 = .ok (.ldiv, 1) := by decide +kernel
theorem d_X12_sharesOf_81 : decode mX12_sharesOf.2.2.1 81 = .ok (.lload 7, 2) := by decide +kernel
theorem d_X12_sharesOf_83 : decode mX12_sharesOf.2.2.1 83 = .ok (.lconst 1, 1) := by decide +kernel
theorem d_X12_sharesOf_84 : decode mX12_sharesOf.2.2.1 84 = .ok (.iload_n 2, 1) := by decide +kernel
theorem d_X12_sharesOf_85 : decode mX12_sharesOf.2.2.1 85 = .ok (.lshl, 1) := by decide +kernel
