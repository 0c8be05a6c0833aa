theorem d_X5_refuse_13 : decode mX5_refuse.2.2.1 13 = .ok (.aload_n 0, 1) := by decide +kernel
theorem d_X5_refuse_14 : decode mX5_refuse.2.2.1 14 = .ok (.getfield 36, 3) := by decide +kernel
theorem d_X5_refuse_17 : decode mX5_refuse.2.2.1 17 = .ok (.iaload, 1) := by decide +kernel
theorem d_X5_refuse_18 : decode mX5_refuse.2.2.1 18 = .ok (.putfield 15, 3) := by decide +kernel
theorem d_X5_refuse_21 : decode mX5_refuse.2.2.1 21 = .ok (.iconst 0, 1) := by decide +kernel
theorem d_X5_refuse_22 : decode mX5_refuse.2.2.1 22 = .ok (.ireturn, 1) := by decide +kernel
theorem ok_X5_refuse : e_m mX5_refuse 1 := ⟨tblG_in (inT4 (List.mem_of_getElem? (i := 41) rfl)) rfl, plainFor_of_name (by decide), rfl, ini_5, by decide +kernel, by decide⟩
def mX5_takeSign : MD := (5, yX5_takeSign, cX5_takeSign, 2, some .boolean)
theorem sel_X5_takeSign : Cond.instanceMethod mX5_takeSign.2.1 ∈ tblG ∧ Cond.selects mX5_takeSign.2.1.cls mX5_takeSign.2.1 mX5_takeSign.2.1 ∈ tblG := ⟨tblG_in (inT4 (List.mem_of_getElem? (i := 44) rfl)) rfl, tblG_in (inP1 (q := (mX5_takeSign.2.1, 7)) (List.mem_of_getElem? (i := 14) rfl)) rfl⟩
theorem s_5_81 : e_siteV 5 81 mX5_takeSign 5 := ⟨tblG_in (inT4 (List.mem_of_getElem? (i := 42) rfl)) rfl, sel_X5_takeSign.1, sel_X5_takeSign.2, rfl⟩
theorem d_X5_takeSign_0 : decode mX5_takeSign.2.2.1 0 = .ok (.aload_n 0, 1) := by decide +kernel
theorem d_X5_takeSign_1 : decode mX5_takeSign.2.2.1 1 = .ok (.iload_n 1, 1) := by decide +kernel
theorem d_X5_takeSign_2 : decode mX5_takeSign.2.2.1 2 = .ok (.invokevirtual 77, 3) := by decide +kernel
def mX5_isSign : MD := (5, yX5_isSign, cX5_isSign, 2, some .boolean)
theorem sel_X5_isSign : Cond.instanceMethod mX5_isSign.2.1 ∈ tblG ∧ Cond.selects mX5_isSign.2.1.cls mX5_isSign.2.1 mX5_isSign.2.1 ∈ tblG := ⟨tblG_in (inT4 (List.mem_of_getElem? (i := 48) rfl)) rfl, tblG_in (inP1 (q := (mX5_isSign.2.1, 7)) (List.mem_of_getElem? (i := 15) rfl)) rfl⟩
theorem s_5_77 : e_siteV 5 77 mX5_isSign 5 := ⟨tblG_in (inT4 (List.mem_of_getElem? (i := 46) rfl)) rfl, sel_X5_isSign.1, sel_X5_isSign.2, rfl⟩
theorem d_X5_isSign_0 : decode mX5_isSign.2.2.1 0 = .ok (.aload_n 0, 1) := by decide +kernel
theorem d_X5_isSign_1 : decode mX5_isSign.2.2.1 1 = .ok (.getfield 18, 3) := by decide +kernel
theorem d_X5_isSign_4 : decode mX5_isSign.2.2.1 4 = .ok (.getfield 50, 3) := by decide +kernel
theorem d_X5_isSign_7 : decode mX5_isSign.2.2.1 7 = .ok (.aload_n 0, 1) := by decide +kernel
theorem d_X5_isSign_8 : decode mX5_isSign.2.2.1 8 = .ok (.getfield 36, 3) := by decide +kernel
theorem d_X5_isSign_11 : decode mX5_isSign.2.2.1 11 = .ok (.iaload, 1) := by decide +kernel
theorem d_X5_isSign_12 : decode mX5_isSign.2.2.1 12 = .ok (.iconst 5, 1) := by decide +kernel
theorem d_X5_isSign_13 : decode mX5_isSign.2.2.1 13 = .ok (.if_icmp .ne 23, 3) := by decide +kernel
theorem d_X5_isSign_36 : decode mX5_isSign.2.2.1 36 = .ok (.iconst 0, 1) := by decide +kernel
theorem d_X5_isSign_37 : decode mX5_isSign.2.2.1 37 = .ok (.ireturn, 1) := by decide +kernel
theorem d_X5_isSign_16 : decode mX5_isSign.2.2.1 16 = .ok (.aload_n 0, 1) := by decide +kernel
theorem d_X5_isSign_17 : decode mX5_isSign.2.2.1 17 = .ok (.getfield 18, 3) := by decide +kernel
theorem d_X5_isSign_20 : decode mX5_isSign.2.2.1 20 = .ok (.getfield 68, 3) := by decide +kernel
theorem d_X5_isSign_23 : decode mX5_isSign.2.2.1 23 = .ok (.aload_n 0, 1) := by decide +kernel
theorem d_X5_isSign_24 : decode mX5_isSign.2.2.1 24 = .ok (.getfield 36, 3) := by decide +kernel
theorem d_X5_isSign_27 : decode mX5_isSign.2.2.1 27 = .ok (.iaload, 1) := by decide +kernel
theorem d_X5_isSign_28 : decode mX5_isSign.2.2.1 28 = .ok (.iload_n 1, 1) := by decide +kernel
theorem d_X5_isSign_29 : decode mX5_isSign.2.2.1 29 = .ok (.if_icmp .ne 7, 3) := by decide +kernel
theorem d_X5_isSign_32 : decode mX5_isSign.2.2.1 32 = .ok (.iconst 1, 1) := by decide +kernel
theorem d_X5_isSign_33 : decode mX5_isSign.2.2.1 33 = .ok (.goto 4, 3) := by decide +kernel
theorem ok_X5_isSign : e_m mX5_isSign 1 := ⟨tblG_in (inT4 (List.mem_of_getElem? (i := 49) rfl)) rfl, plainFor_of_name (by decide), rfl, ini_5, by decide +kernel, by decide⟩
theorem d_X5_takeSign_5 : decode mX5_takeSign.2.2.1 5 = .ok (.ifCond .eq 10, 3) := by decide +kernel
theorem d_X5_takeSign_15 : decode mX5_takeSign.2.2.1 15 = .ok (.aload_n 0, 1) := by decide +kernel
theorem d_X5_takeSign_16 : decode mX5_takeSign.2.2.1 16 = .ok (.iconst 1, 1) := by decide +kernel
theorem d_X5_takeSign_17 : decode mX5_takeSign.2.2.1 17 = .ok (.invokevirtual 56, 3) := by decide +kernel
theorem d_X5_takeSign_20 : decode mX5_takeSign.2.2.1 20 = .ok (.ireturn, 1) := by decide +kernel
theorem d_X5_takeSign_8 : decode mX5_takeSign.2.2.1 8 = .ok (.aload_n 0, 1) := by decide +kernel
theorem d_X5_takeSign_9 : decode mX5_takeSign.2.2.1 9 = .ok (.invokevirtual 74, 3) := by decide +kernel
theorem d_X5_takeSign_12 : decode mX5_takeSign.2.2.1 12 = .ok (.goto 8, 3) := by decide +kernel
theorem ok_X5_takeSign : e_m mX5_takeSign 1 := ⟨tblG_in (inT4 (List.mem_of_getElem? (i := 45) rfl)) rfl, plainFor_of_name (by decide), rfl, ini_5, by decide +kernel, by decide⟩
def mX5_takeNumber : MD := (5, yX5_takeNumber, cX5_takeNumber, 4, some .int)
theorem sel_X5_takeNumber : Cond.instanceMethod mX5_takeNumber.2.1 ∈ tblG ∧ Cond.selects mX5_takeNumber.2.1.cls mX5_takeNumber.2.1 mX5_takeNumber.2.1 ∈ tblG := ⟨tblG_in (inT4 (List.mem_of_getElem? (i := 36) rfl)) rfl, tblG_in (inP1 (q := (mX5_takeNumber.2.1, 7)) (List.mem_of_getElem? (i := 12) rfl)) rfl⟩
theorem s_5_87 : e_siteV 5 87 mX5_takeNumber 5 := ⟨tblG_in (inT4 (List.mem_of_getElem? (i := 34) rfl)) rfl, sel_X5_takeNumber.1, sel_X5_takeNumber.2, rfl⟩
theorem d_X5_takeNumber_0 : decode mX5_takeNumber.2.2.1 0 = .ok (.aload_n 0, 1) := by decide +kernel
theorem d_X5_takeNumber_1 : decode mX5_takeNumber.2.2.1 1 = .ok (.getfield 18, 3) := by decide +kernel
theorem d_X5_takeNumber_4 : decode mX5_takeNumber.2.2.1 4 = .ok (.getfield 50, 3) := by decide +kernel
theorem d_X5_takeNumber_7 : decode mX5_takeNumber.2.2.1 7 = .ok (.aload_n 0, 1) := by decide +kernel
theorem d_X5_takeNumber_8 : decode mX5_takeNumber.2.2.1 8 = .ok (.getfield 36, 3) := by decide +kernel
theorem d_X5_takeNumber_11 : decode mX5_takeNumber.2.2.1 11 = .ok (.iaload, 1) := by decide +kernel
theorem d_X5_takeNumber_12 : decode mX5_takeNumber.2.2.1 12 = .ok (.iconst 4, 1) := by decide +kernel
theorem d_X5_takeNumber_13 : decode mX5_takeNumber.2.2.1 13 = .ok (.if_icmp .eq 11, 3) := by decide +kernel
theorem d_X5_takeNumber_24 : decode mX5_takeNumber.2.2.1 24 = .ok (.aload_n 0, 1) := by decide +kernel
theorem d_X5_takeNumber_25 : decode mX5_takeNumber.2.2.1 25 = .ok (.getfield 18, 3) := by decide +kernel
theorem d_X5_takeNumber_28 : decode mX5_takeNumber.2.2.1 28 = .ok (.getfield 68, 3) := by decide +kernel
theorem d_X5_takeNumber_31 : decode mX5_takeNumber.2.2.1 31 = .ok (.aload_n 0, 1) := by decide +kernel
theorem d_X5_takeNumber_32 : decode mX5_takeNumber.2.2.1 32 = .ok (.getfield 36, 3) := by decide +kernel
theorem d_X5_takeNumber_35 : decode mX5_takeNumber.2.2.1 35 = .ok (.iaload, 1) := by decide +kernel
theorem d_X5_takeNumber_36 : decode mX5_takeNumber.2.2.1 36 = .ok (.istore_n 3, 1) := by decide +kernel
theorem d_X5_takeNumber_37 : decode mX5_takeNumber.2.2.1 37 = .ok (.iload_n 3, 1) := by decide +kernel
theorem d_X5_takeNumber_38 : decode mX5_takeNumber.2.2.1 38 = .ok (.iload_n 1, 1) := by decide +kernel
theorem d_X5_takeNumber_39 : decode mX5_takeNumber.2.2.1 39 = .ok (.if_icmp .lt 8, 3) := by decide +kernel
theorem d_X5_takeNumber_42 : decode mX5_takeNumber.2.2.1 42 = .ok (.iload_n 3, 1) := by decide +kernel
theorem d_X5_takeNumber_43 : decode mX5_takeNumber.2.2.1 43 = .ok (.iload_n 2, 1) := by decide +kernel
theorem d_X5_takeNumber_44 : decode mX5_takeNumber.2.2.1 44 = .ok (.if_icmp .le 11, 3) := by decide +kernel
theorem d_X5_takeNumber_55 : decode mX5_takeNumber.2.2.1 55 = .ok (.aload_n 0, 1) := by decide +kernel
theorem d_X5_takeNumber_56 : decode mX5_takeNumber.2.2.1 56 = .ok (.invokevirtual 74, 3) := by decide +kernel
theorem d_X5_takeNumber_59 : decode mX5_takeNumber.2.2.1 59 = .ok (.pop, 1) := by decide +kernel
theorem d_X5_takeNumber_60 : decode mX5_takeNumber.2.2.1 60 = .ok (.iload_n 3, 1) := by decide +kernel
theorem d_X5_takeNumber_61 : decode mX5_takeNumber.2.2.1 61 = .ok (.ireturn, 1) := by decide +kernel
theorem d_X5_takeNumber_16 : decode mX5_takeNumber.2.2.1 16 = .ok (.aload_n 0, 1) := by decide +kernel
theorem d_X5_takeNumber_17 : decode mX5_takeNumber.2.2.1 17 = .ok (.iconst 1, 1) := by decide +kernel
theorem d_X5_takeNumber_18 : decode mX5_takeNumber.2.2.1 18 = .ok (.invokevirtual 56, 3) := by decide +kernel
theorem d_X5_takeNumber_21 : decode mX5_takeNumber.2.2.1 21 = .ok (.pop, 1) := by decide +kernel
theorem d_X5_takeNumber_22 : decode mX5_takeNumber.2.2.1 22 = .ok (.iconst (-1), 1) := by decide +kernel
theorem d_X5_takeNumber_23 : decode mX5_takeNumber.2.2.1 23 = .ok (.ireturn, 1) := by decide +kernel
theorem d_X5_takeNumber_47 : decode mX5_takeNumber.2.2.1 47 = .ok (.aload_n 0, 1) := by decide +kernel
theorem d_X5_takeNumber_48 : decode mX5_takeNumber.2.2.1 48 = .ok (.iconst 4, 1) := by decide +kernel
theorem d_X5_takeNumber_49 : decode mX5_takeNumber.2.2.1 49 = .ok (.invokevirtual 56, 3) := by decide +kernel
theorem d_X5_takeNumber_52 : decode mX5_takeNumber.2.2.1 52 = .ok (.pop, 1) := by decide +kernel
theorem d_X5_takeNumber_53 : decode mX5_takeNumber.2.2.1 53 = .ok (.iconst (-1), 1) := by decide +kernel
theorem d_X5_takeNumber_54 : decode mX5_takeNumber.2.2.1 54 = .ok (.ireturn, 1) := by decide +kernel
theorem ok_X5_takeNumber : e_m mX5_takeNumber 2 := ⟨tblG_in (inT4 (List.mem_of_getElem? (i := 37) rfl)) rfl, plainFor_of_name (by decide), rfl, ini_5, by decide +kernel, by decide⟩
def mX5_takeTold : MD := (5, yX5_takeTold, cX5_takeTold, 3, some .int)
theorem d_X5_takeTold_0 : decode mX5_takeTold.2.2.1 0 = .ok (.aload_n 0, 1) := by decide +kernel
theorem d_X5_takeTold_1 : decode mX5_takeTold.2.2.1 1 = .ok (.iload_n 1, 1) := by decide +kernel
theorem d_X5_takeTold_2 : decode mX5_takeTold.2.2.1 2 = .ok (.invokevirtual 84, 3) := by decide +kernel
def mX5_takeOwn : MD := (5, yX5_takeOwn, cX5_takeOwn, 2, some .boolean)
theorem sel_X5_takeOwn : Cond.instanceMethod mX5_takeOwn.2.1 ∈ tblG ∧ Cond.selects mX5_takeOwn.2.1.cls mX5_takeOwn.2.1 mX5_takeOwn.2.1 ∈ tblG := ⟨tblG_in (inT4 (List.mem_of_getElem? (i := 84) rfl)) rfl, tblG_in (inP2 (q := (mX5_takeOwn.2.1, 7)) (List.mem_of_getElem? (i := 4) rfl)) rfl⟩
theorem s_5_84 : e_siteV 5 84 mX5_takeOwn 5 := ⟨tblG_in (inT4 (List.mem_of_getElem? (i := 82) rfl)) rfl, sel_X5_takeOwn.1, sel_X5_takeOwn.2, rfl⟩
theorem d_X5_takeOwn_0 : decode mX5_takeOwn.2.2.1 0 = .ok (.aload_n 0, 1) := by decide +kernel
theorem d_X5_takeOwn_1 : decode mX5_takeOwn.2.2.1 1 = .ok (.iload_n 1, 1) := by decide +kernel
theorem d_X5_takeOwn_2 : decode mX5_takeOwn.2.2.1 2 = .ok (.invokevirtual 71, 3) := by decide +kernel
def mX5_isOwn : MD := (5, yX5_isOwn, cX5_isOwn, 2, some .boolean)
theorem sel_X5_isOwn : Cond.instanceMethod mX5_isOwn.2.1 ∈ tblG ∧ Cond.selects mX5_isOwn.2.1.cls mX5_isOwn.2.1 mX5_isOwn.2.1 ∈ tblG := ⟨tblG_in (inT4 (List.mem_of_getElem? (i := 88) rfl)) rfl, tblG_in (inP2 (q := (mX5_isOwn.2.1, 7)) (List.mem_of_getElem? (i := 5) rfl)) rfl⟩
theorem s_5_71 : e_siteV 5 71 mX5_isOwn 5 := ⟨tblG_in (inT4 (List.mem_of_getElem? (i := 86) rfl)) rfl, sel_X5_isOwn.1, sel_X5_isOwn.2, rfl⟩
theorem d_X5_isOwn_0 : decode mX5_isOwn.2.2.1 0 = .ok (.aload_n 0, 1) := by decide +kernel
theorem d_X5_isOwn_1 : decode mX5_isOwn.2.2.1 1 = .ok (.getfield 18, 3) := by decide +kernel
theorem d_X5_isOwn_4 : decode mX5_isOwn.2.2.1 4 = .ok (.getfield 50, 3) := by decide +kernel
theorem d_X5_isOwn_7 : decode mX5_isOwn.2.2.1 7 = .ok (.aload_n 0, 1) := by decide +kernel
theorem d_X5_isOwn_8 : decode mX5_isOwn.2.2.1 8 = .ok (.getfield 36, 3) := by decide +kernel
theorem d_X5_isOwn_11 : decode mX5_isOwn.2.2.1 11 = .ok (.iaload, 1) := by decide +kernel
theorem d_X5_isOwn_12 : decode mX5_isOwn.2.2.1 12 = .ok (.iconst 2, 1) := by decide +kernel
theorem d_X5_isOwn_13 : decode mX5_isOwn.2.2.1 13 = .ok (.if_icmp .ne 23, 3) := by decide +kernel
theorem d_X5_isOwn_36 : decode mX5_isOwn.2.2.1 36 = .ok (.iconst 0, 1) := by decide +kernel
theorem d_X5_isOwn_37 : decode mX5_isOwn.2.2.1 37 = .ok (.ireturn, 1) := by decide +kernel
theorem d_X5_isOwn_16 : decode mX5_isOwn.2.2.1 16 = .ok (.aload_n 0, 1) := by decide +kernel
theorem d_X5_isOwn_17 : decode mX5_isOwn.2.2.1 17 = .ok (.getfield 18, 3) := by decide +kernel
theorem d_X5_isOwn_20 : decode mX5_isOwn.2.2.1 20 = .ok (.getfield 68, 3) := by decide +kernel
theorem d_X5_isOwn_23 : decode mX5_isOwn.2.2.1 23 = .ok (.aload_n 0, 1) := by decide +kernel
theorem d_X5_isOwn_24 : decode mX5_isOwn.2.2.1 24 = .ok (.getfield 36, 3) := by decide +kernel
theorem d_X5_isOwn_27 : decode mX5_isOwn.2.2.1 27 = .ok (.iaload, 1) := by decide +kernel
theorem d_X5_isOwn_28 : decode mX5_isOwn.2.2.1 28 = .ok (.iload_n 1, 1) := by decide +kernel
theorem d_X5_isOwn_29 : decode mX5_isOwn.2.2.1 29 = .ok (.if_icmp .ne 7, 3) := by decide +kernel
theorem d_X5_isOwn_32 : decode mX5_isOwn.2.2.1 32 = .ok (.iconst 1, 1) := by decide +kernel
theorem d_X5_isOwn_33 : decode mX5_isOwn.2.2.1 33 = .ok (.goto 4, 3) := by decide +kernel
theorem ok_X5_isOwn : e_m mX5_isOwn 1 := ⟨tblG_in (inT4 (List.mem_of_getElem? (i := 89) rfl)) rfl, plainFor_of_name (by decide), rfl, ini_5, by decide +kernel, by decide⟩
theorem d_X5_takeOwn_5 : decode mX5_takeOwn.2.2.1 5 = .ok (.ifCond .eq 10, 3) := by decide +kernel
theorem d_X5_takeOwn_15 : decode mX5_takeOwn.2.2.1 15 = .ok (.aload_n 0, 1) := by decide +kernel
theorem d_X5_takeOwn_16 : decode mX5_takeOwn.2.2.1 16 = .ok (.iconst 1, 1) := by decide +kernel
theorem d_X5_takeOwn_17 : decode mX5_takeOwn.2.2.1 17 = .ok (.invokevirtual 56, 3) := by decide +kernel
theorem d_X5_takeOwn_20 : decode mX5_takeOwn.2.2.1 20 = .ok (.ireturn, 1) := by decide +kernel
theorem d_X5_takeOwn_8 : decode mX5_takeOwn.2.2.1 8 = .ok (.aload_n 0, 1) := by decide +kernel
theorem d_X5_takeOwn_9 : decode mX5_takeOwn.2.2.1 9 = .ok (.invokevirtual 74, 3) := by decide +kernel
theorem d_X5_takeOwn_12 : decode mX5_takeOwn.2.2.1 12 = .ok (.goto 8, 3) := by decide +kernel
theorem ok_X5_takeOwn : e_m mX5_takeOwn 1 := ⟨tblG_in (inT4 (List.mem_of_getElem? (i := 85) rfl)) rfl, plainFor_of_name (by decide), rfl, ini_5, by decide +kernel, by decide⟩
theorem d_X5_takeTold_5 : decode mX5_takeTold.2.2.1 5 = .ok (.ifCond .eq 12, 3) := by decide +kernel
theorem d_X5_takeTold_17 : decode mX5_takeTold.2.2.1 17 = .ok (.iconst (-1), 1) := by decide +kernel
theorem d_X5_takeTold_18 : decode mX5_takeTold.2.2.1 18 = .ok (.ireturn, 1) := by decide +kernel
theorem d_X5_takeTold_8 : decode mX5_takeTold.2.2.1 8 = .ok (.aload_n 0, 1) := by decide +kernel
theorem d_X5_takeTold_9 : decode mX5_takeTold.2.2.1 9 = .ok (.iconst 0, 1) := by decide +kernel
theorem d_X5_takeTold_10 : decode mX5_takeTold.2.2.1 10 = .ok (.iload_n 2, 1) := by decide +kernel
theorem d_X5_takeTold_11 : decode mX5_takeTold.2.2.1 11 = .ok (.invokevirtual 87, 3) := by decide +kernel
theorem d_X5_takeTold_14 : decode mX5_takeTold.2.2.1 14 = .ok (.goto 4, 3) := by decide +kernel
def mX5_cache : MD := (5, yX5_cache, cX5_cache, 4, some .boolean)
theorem d_X5_cache_0 : decode mX5_cache.2.2.1 0 = .ok (.aload_n 0, 1) := by decide +kernel
theorem d_X5_cache_1 : decode mX5_cache.2.2.1 1 = .ok (.invokevirtual 74, 3) := by decide +kernel
theorem d_X5_cache_4 : decode mX5_cache.2.2.1 4 = .ok (.pop, 1) := by decide +kernel
theorem d_X5_cache_5 : decode mX5_cache.2.2.1 5 = .ok (.aload_n 0, 1) := by decide +kernel
theorem d_X5_cache_6 : decode mX5_cache.2.2.1 6 = .ok (.iconst 1, 1) := by decide +kernel
theorem d_X5_cache_7 : decode mX5_cache.2.2.1 7 = .ok (.bipush 8, 2) := by decide +kernel
theorem d_X5_cache_9 : decode mX5_cache.2.2.1 9 = .ok (.invokevirtual 87, 3) := by decide +kernel
theorem d_X5_cache_12 : decode mX5_cache.2.2.1 12 = .ok (.istore_n 1, 1) := by decide +kernel
theorem d_X5_cache_13 : decode mX5_cache.2.2.1 13 = .ok (.iload_n 1, 1) := by decide +kernel
theorem d_X5_cache_14 : decode mX5_cache.2.2.1 14 = .ok (.ifCond .ge 7, 3) := by decide +kernel
theorem d_X5_cache_21 : decode mX5_cache.2.2.1 21 = .ok (.aload_n 0, 1) := by decide +kernel
theorem d_X5_cache_22 : decode mX5_cache.2.2.1 22 = .ok (.iconst 1, 1) := by decide +kernel
theorem d_X5_cache_23 : decode mX5_cache.2.2.1 23 = .ok (.bipush 8, 2) := by decide +kernel
theorem d_X5_cache_25 : decode mX5_cache.2.2.1 25 = .ok (.invokevirtual 87, 3) := by decide +kernel
theorem d_X5_cache_17 : decode mX5_cache.2.2.1 17 = .ok (.iconst (-1), 1) := by decide +kernel
theorem d_X5_cache_18 : decode mX5_cache.2.2.1 18 = .ok (.goto 10, 3) := by decide +kernel
theorem d_X5_cache_28 : decode mX5_cache.2.2.1 28 = .ok (.istore_n 2, 1) := by decide +kernel
theorem d_X5_cache_29 : decode mX5_cache.2.2.1 29 = .ok (.iload_n 2, 1) := by decide +kernel
theorem d_X5_cache_30 : decode mX5_cache.2.2.1 30 = .ok (.ifCond .ge 7, 3) := by decide +kernel
theorem d_X5_cache_37 : decode mX5_cache.2.2.1 37 = .ok (.aload_n 0, 1) := by decide +kernel
theorem d_X5_cache_38 : decode mX5_cache.2.2.1 38 = .ok (.iconst 0, 1) := by decide +kernel
theorem d_X5_cache_39 : decode mX5_cache.2.2.1 39 = .ok (.bipush 20, 2) := by decide +kernel
theorem d_X5_cache_41 : decode mX5_cache.2.2.1 41 = .ok (.invokevirtual 87, 3) := by decide +kernel
theorem d_X5_cache_33 : decode mX5_cache.2.2.1 33 = .ok (.iconst (-1), 1) := by decide +kernel
theorem d_X5_cache_34 : decode mX5_cache.2.2.1 34 = .ok (.goto 10, 3) := by decide +kernel
theorem d_X5_cache_44 : decode mX5_cache.2.2.1 44 = .ok (.istore_n 3, 1) := by decide +kernel
theorem d_X5_cache_45 : decode mX5_cache.2.2.1 45 = .ok (.aload_n 0, 1) := by decide +kernel
theorem d_X5_cache_46 : decode mX5_cache.2.2.1 46 = .ok (.getfield 22, 3) := by decide +kernel
theorem d_X5_cache_49 : decode mX5_cache.2.2.1 49 = .ok (.iload_n 1, 1) := by decide +kernel
theorem d_X5_cache_50 : decode mX5_cache.2.2.1 50 = .ok (.putfield 117, 3) := by decide +kernel
theorem f_5_117 : e_fld 5 117 3 1 12 0 false := ⟨RX3, TX3, 1, rfl, rfl, by decide, rfl, rfl, rfl, iX3, tblG_in (inT1 (List.mem_of_getElem? (i := 165) rfl)) rfl, tyX3_ok, nmX3⟩
theorem d_X5_cache_53 : decode mX5_cache.2.2.1 53 = .ok (.aload_n 0, 1) := by decide +kernel
theorem d_X5_cache_54 : decode mX5_cache.2.2.1 54 = .ok (.getfield 22, 3) := by decide +kernel
theorem d_X5_cache_57 : decode mX5_cache.2.2.1 57 = .ok (.iload_n 2, 1) := by decide +kernel
theorem d_X5_cache_58 : decode mX5_cache.2.2.1 58 = .ok (.putfield 120, 3) := by decide +kernel
theorem f_5_120 : e_fld 5 120 3 2 12 0 false := ⟨RX3, TX3, 2, rfl, rfl, by decide, rfl, rfl, rfl, iX3, tblG_in (inT1 (List.mem_of_getElem? (i := 168) rfl)) rfl, tyX3_ok, nmX3⟩
theorem d_X5_cache_61 : decode mX5_cache.2.2.1 61 = .ok (.aload_n 0, 1) := by decide +kernel
theorem d_X5_cache_62 : decode mX5_cache.2.2.1 62 = .ok (.getfield 22, 3) := by decide +kernel
theorem d_X5_cache_65 : decode mX5_cache.2.2.1 65 = .ok (.iload_n 3, 1) := by decide +kernel
theorem d_X5_cache_66 : decode mX5_cache.2.2.1 66 = .ok (.putfield 123, 3) := by decide +kernel
theorem f_5_123 : e_fld 5 123 3 3 12 0 false := ⟨RX3, TX3, 3, rfl, rfl, by decide, rfl, rfl, rfl, iX3, tblG_in (inT1 (List.mem_of_getElem? (i := 171) rfl)) rfl, tyX3_ok, nmX3⟩
theorem d_X5_cache_69 : decode mX5_cache.2.2.1 69 = .ok (.iload_n 3, 1) := by decide +kernel
theorem d_X5_cache_70 : decode mX5_cache.2.2.1 70 = .ok (.ifCond .lt 16, 3) := by decide +kernel
theorem d_X5_cache_86 : decode mX5_cache.2.2.1 86 = .ok (.iconst 0, 1) := by decide +kernel
theorem d_X5_cache_87 : decode mX5_cache.2.2.1 87 = .ok (.ireturn, 1) := by decide +kernel
theorem d_X5_cache_73 : decode mX5_cache.2.2.1 73 = .ok (.aload_n 0, 1) := by decide +kernel
theorem d_X5_cache_74 : decode mX5_cache.2.2.1 74 = .ok (.bipush 59, 2) := by decide +kernel
theorem d_X5_cache_76 : decode mX5_cache.2.2.1 76 = .ok (.invokevirtual 81, 3) := by decide +kernel
theorem d_X5_cache_79 : decode mX5_cache.2.2.1 79 = .ok (.ifCond .eq 7, 3) := by decide +kernel
theorem d_X5_cache_82 : decode mX5_cache.2.2.1 82 = .ok (.iconst 1, 1) := by decide +kernel
theorem d_X5_cache_83 : decode mX5_cache.2.2.1 83 = .ok (.goto 4, 3) := by decide +kernel
def mX5_heart : MD := (5, yX5_heart, cX5_heart, 2, some .boolean)
theorem d_X5_heart_0 : decode mX5_heart.2.2.1 0 = .ok (.aload_n 0, 1) := by decide +kernel
theorem d_X5_heart_1 : decode mX5_heart.2.2.1 1 = .ok (.invokevirtual 74, 3) := by decide +kernel
theorem d_X5_heart_4 : decode mX5_heart.2.2.1 4 = .ok (.pop, 1) := by decide +kernel
theorem d_X5_heart_5 : decode mX5_heart.2.2.1 5 = .ok (.aload_n 0, 1) := by decide +kernel
theorem d_X5_heart_6 : decode mX5_heart.2.2.1 6 = .ok (.iconst 0, 1) := by decide +kernel
theorem d_X5_heart_7 : decode mX5_heart.2.2.1 7 = .ok (.sipush 999, 3) := by decide +kernel
theorem d_X5_heart_10 : decode mX5_heart.2.2.1 10 = .ok (.invokevirtual 87, 3) := by decide +kernel
theorem d_X5_heart_13 : decode mX5_heart.2.2.1 13 = .ok (.istore_n 1, 1) := by decide +kernel
theorem d_X5_heart_14 : decode mX5_heart.2.2.1 14 = .ok (.aload_n 0, 1) := by decide +kernel
theorem d_X5_heart_15 : decode mX5_heart.2.2.1 15 = .ok (.getfield 22, 3) := by decide +kernel
theorem d_X5_heart_18 : decode mX5_heart.2.2.1 18 = .ok (.iload_n 1, 1) := by decide +kernel
theorem d_X5_heart_19 : decode mX5_heart.2.2.1 19 = .ok (.putfield 115, 3) := by decide +kernel
theorem f_5_115 : e_fld 5 115 3 0 12 0 false := ⟨RX3, TX3, 0, rfl, rfl, by decide, rfl, rfl, rfl, iX3, tblG_in (inT1 (List.mem_of_getElem? (i := 162) rfl)) rfl, tyX3_ok, nmX3⟩
theorem d_X5_heart_22 : decode mX5_heart.2.2.1 22 = .ok (.iload_n 1, 1) := by decide +kernel
theorem d_X5_heart_23 : decode mX5_heart.2.2.1 23 = .ok (.ifCond .lt 16, 3) := by decide +kernel
theorem d_X5_heart_39 : decode mX5_heart.2.2.1 39 = .ok (.iconst 0, 1) := by decide +kernel
theorem d_X5_heart_40 : decode mX5_heart.2.2.1 40 = .ok (.ireturn, 1) := by decide +kernel
theorem d_X5_heart_26 : decode mX5_heart.2.2.1 26 = .ok (.aload_n 0, 1) := by decide +kernel
theorem d_X5_heart_27 : decode mX5_heart.2.2.1 27 = .ok (.bipush 59, 2) := by decide +kernel
theorem d_X5_heart_29 : decode mX5_heart.2.2.1 29 = .ok (.invokevirtual 81, 3) := by decide +kernel
theorem d_X5_heart_32 : decode mX5_heart.2.2.1 32 = .ok (.ifCond .eq 7, 3) := by decide +kernel
theorem d_X5_heart_35 : decode mX5_heart.2.2.1 35 = .ok (.iconst 1, 1) := by decide +kernel
theorem d_X5_heart_36 : decode mX5_heart.2.2.1 36 = .ok (.goto 4, 3) := by decide +kernel
def mX5_isOrder : MD := (5, yX5_isOrder, cX5_isOrder, 2, some .boolean)
theorem d_X5_isOrder_0 : decode mX5_isOrder.2.2.1 0 = .ok (.aload_n 0, 1) := by decide +kernel
theorem d_X5_isOrder_1 : decode mX5_isOrder.2.2.1 1 = .ok (.getfield 18, 3) := by decide +kernel
theorem d_X5_isOrder_4 : decode mX5_isOrder.2.2.1 4 = .ok (.getfield 68, 3) := by decide +kernel
theorem d_X5_isOrder_7 : decode mX5_isOrder.2.2.1 7 = .ok (.aload_n 0, 1) := by decide +kernel
theorem d_X5_isOrder_8 : decode mX5_isOrder.2.2.1 8 = .ok (.getfield 36, 3) := by decide +kernel
theorem d_X5_isOrder_11 : decode mX5_isOrder.2.2.1 11 = .ok (.iaload, 1) := by decide +kernel
theorem d_X5_isOrder_12 : decode mX5_isOrder.2.2.1 12 = .ok (.istore_n 1, 1) := by decide +kernel
theorem d_X5_isOrder_13 : decode mX5_isOrder.2.2.1 13 = .ok (.aload_n 0, 1) := by decide +kernel
theorem d_X5_isOrder_14 : decode mX5_isOrder.2.2.1 14 = .ok (.getfield 18, 3) := by decide +kernel
theorem d_X5_isOrder_17 : decode mX5_isOrder.2.2.1 17 = .ok (.getfield 50, 3) := by decide +kernel
theorem d_X5_isOrder_20 : decode mX5_isOrder.2.2.1 20 = .ok (.aload_n 0, 1) := by decide +kernel
theorem d_X5_isOrder_21 : decode mX5_isOrder.2.2.1 21 = .ok (.getfield 36, 3) := by decide +kernel
theorem d_X5_isOrder_24 : decode mX5_isOrder.2.2.1 24 = .ok (.iaload, 1) := by decide +kernel
theorem d_X5_isOrder_25 : decode mX5_isOrder.2.2.1 25 = .ok (.iconst 2, 1) := by decide +kernel
