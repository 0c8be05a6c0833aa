def mX12_feed : MD := (12, yX12_feed, cX12_feed, 6, some .int)
theorem d_X12_feed_0 : decode mX12_feed.2.2.1 0 = .ok (.aload_n 0, 1) := by decide +kernel
theorem d_X12_feed_1 : decode mX12_feed.2.2.1 1 = .ok (.getfield 13, 3) := by decide +kernel
theorem d_X12_feed_4 : decode mX12_feed.2.2.1 4 = .ok (.bipush 20, 2) := by decide +kernel
theorem d_X12_feed_6 : decode mX12_feed.2.2.1 6 = .ok (.iadd, 1) := by decide +kernel
theorem d_X12_feed_7 : decode mX12_feed.2.2.1 7 = .ok (.sipush 900, 3) := by decide +kernel
theorem d_X12_feed_10 : decode mX12_feed.2.2.1 10 = .ok (.if_icmp .le 5, 3) := by decide +kernel
theorem d_X12_feed_15 : decode mX12_feed.2.2.1 15 = .ok (.aload_n 0, 1) := by decide +kernel
theorem d_X12_feed_16 : decode mX12_feed.2.2.1 16 = .ok (.iload_n 1, 1) := by decide +kernel
theorem d_X12_feed_17 : decode mX12_feed.2.2.1 17 = .ok (.invokevirtual 378, 3) := by decide +kernel
def mX12_put : MD := (12, yX12_put, cX12_put, 3, none)
theorem sel_X12_put : Cond.instanceMethod mX12_put.2.1 ∈ tblG ∧ Cond.selects mX12_put.2.1.cls mX12_put.2.1 mX12_put.2.1 ∈ tblG := ⟨tblG_in (inT8 (List.mem_of_getElem? (i := 82) rfl)) rfl, tblG_in (inP5 (q := (mX12_put.2.1, 121)) (List.mem_of_getElem? (i := 8) rfl)) rfl⟩
theorem s_12_378 : e_siteV 12 378 mX12_put 12 := ⟨tblG_in (inT8 (List.mem_of_getElem? (i := 80) rfl)) rfl, sel_X12_put.1, sel_X12_put.2, rfl⟩
theorem d_X12_put_0 : decode mX12_put.2.2.1 0 = .ok (.bipush 24, 2) := by decide +kernel
theorem d_X12_put_2 : decode mX12_put.2.2.1 2 = .ok (.istore_n 2, 1) := by decide +kernel
theorem d_X12_put_3 : decode mX12_put.2.2.1 3 = .ok (.iload_n 2, 1) := by decide +kernel
theorem d_X12_put_4 : decode mX12_put.2.2.1 4 = .ok (.ifCond .lt 35, 3) := by decide +kernel
theorem d_X12_put_7 : decode mX12_put.2.2.1 7 = .ok (.aload_n 0, 1) := by decide +kernel
theorem d_X12_put_8 : decode mX12_put.2.2.1 8 = .ok (.getfield 7, 3) := by decide +kernel
theorem d_X12_put_11 : decode mX12_put.2.2.1 11 = .ok (.aload_n 0, 1) := by decide +kernel
theorem d_X12_put_12 : decode mX12_put.2.2.1 12 = .ok (.getfield 13, 3) := by decide +kernel
theorem d_X12_put_15 : decode mX12_put.2.2.1 15 = .ok (.iload_n 1, 1) := by decide +kernel
theorem d_X12_put_16 : decode mX12_put.2.2.1 16 = .ok (.iload_n 2, 1) := by decide +kernel
theorem d_X12_put_17 : decode mX12_put.2.2.1 17 = .ok (.ishr, 1) := by decide +kernel
theorem d_X12_put_18 : decode mX12_put.2.2.1 18 = .ok (.sipush 255, 3) := by decide +kernel
theorem d_X12_put_21 : decode mX12_put.2.2.1 21 = .ok (.iand, 1) := by decide +kernel
theorem d_X12_put_22 : decode mX12_put.2.2.1 22 = .ok (.iastore, 1) := by decide +kernel
theorem d_X12_put_23 : decode mX12_put.2.2.1 23 = .ok (.aload_n 0, 1) := by decide +kernel
theorem d_X12_put_24 : decode mX12_put.2.2.1 24 = .ok (.dup, 1) := by decide +kernel
theorem d_X12_put_25 : decode mX12_put.2.2.1 25 = .ok (.getfield 13, 3) := by decide +kernel
theorem d_X12_put_28 : decode mX12_put.2.2.1 28 = .ok (.iconst 1, 1) := by decide +kernel
theorem d_X12_put_29 : decode mX12_put.2.2.1 29 = .ok (.iadd, 1) := by decide +kernel
theorem d_X12_put_30 : decode mX12_put.2.2.1 30 = .ok (.putfield 13, 3) := by decide +kernel
theorem d_X12_put_33 : decode mX12_put.2.2.1 33 = .ok (.iinc 2 (-8), 3) := by decide +kernel
theorem d_X12_put_36 : decode mX12_put.2.2.1 36 = .ok (.goto (-33), 3) := by decide +kernel
theorem d_X12_put_39 : decode mX12_put.2.2.1 39 = .ok (.return_, 1) := by decide +kernel
theorem ok_X12_put : e_m mX12_put 1 := ⟨tblG_in (inT8 (List.mem_of_getElem? (i := 83) rfl)) rfl, plainFor_of_name (by decide), rfl, ini_12, by decide +kernel, by decide⟩
theorem d_X12_feed_20 : decode mX12_feed.2.2.1 20 = .ok (.aload_n 0, 1) := by decide +kernel
theorem d_X12_feed_21 : decode mX12_feed.2.2.1 21 = .ok (.iload_n 2, 1) := by decide +kernel
theorem d_X12_feed_22 : decode mX12_feed.2.2.1 22 = .ok (.invokevirtual 378, 3) := by decide +kernel
theorem d_X12_feed_25 : decode mX12_feed.2.2.1 25 = .ok (.aload_n 0, 1) := by decide +kernel
theorem d_X12_feed_26 : decode mX12_feed.2.2.1 26 = .ok (.iload_n 3, 1) := by decide +kernel
theorem d_X12_feed_27 : decode mX12_feed.2.2.1 27 = .ok (.invokevirtual 378, 3) := by decide +kernel
theorem d_X12_feed_30 : decode mX12_feed.2.2.1 30 = .ok (.aload_n 0, 1) := by decide +kernel
theorem d_X12_feed_31 : decode mX12_feed.2.2.1 31 = .ok (.iload 4, 2) := by decide +kernel
theorem d_X12_feed_33 : decode mX12_feed.2.2.1 33 = .ok (.invokevirtual 378, 3) := by decide +kernel
theorem d_X12_feed_36 : decode mX12_feed.2.2.1 36 = .ok (.aload_n 0, 1) := by decide +kernel
theorem d_X12_feed_37 : decode mX12_feed.2.2.1 37 = .ok (.iload 5, 2) := by decide +kernel
theorem d_X12_feed_39 : decode mX12_feed.2.2.1 39 = .ok (.invokevirtual 378, 3) := by decide +kernel
theorem d_X12_feed_42 : decode mX12_feed.2.2.1 42 = .ok (.aload_n 0, 1) := by decide +kernel
theorem d_X12_feed_43 : decode mX12_feed.2.2.1 43 = .ok (.getfield 13, 3) := by decide +kernel
theorem d_X12_feed_46 : decode mX12_feed.2.2.1 46 = .ok (.ireturn, 1) := by decide +kernel
theorem d_X12_feed_13 : decode mX12_feed.2.2.1 13 = .ok (.iconst (-1), 1) := by decide +kernel
theorem d_X12_feed_14 : decode mX12_feed.2.2.1 14 = .ok (.ireturn, 1) := by decide +kernel
def mX12_end : MD := (12, yX12_end, cX12_end, 2, some .boolean)
theorem d_X12_end_0 : decode mX12_end.2.2.1 0 = .ok (.iload_n 1, 1) := by decide +kernel
theorem d_X12_end_1 : decode mX12_end.2.2.1 1 = .ok (.ifCond .lt 11, 3) := by decide +kernel
theorem d_X12_end_12 : decode mX12_end.2.2.1 12 = .ok (.iconst 0, 1) := by decide +kernel
theorem d_X12_end_13 : decode mX12_end.2.2.1 13 = .ok (.ireturn, 1) := by decide +kernel
theorem d_X12_end_4 : decode mX12_end.2.2.1 4 = .ok (.iload_n 1, 1) := by decide +kernel
theorem d_X12_end_5 : decode mX12_end.2.2.1 5 = .ok (.aload_n 0, 1) := by decide +kernel
theorem d_X12_end_6 : decode mX12_end.2.2.1 6 = .ok (.getfield 13, 3) := by decide +kernel
theorem d_X12_end_9 : decode mX12_end.2.2.1 9 = .ok (.if_icmp .le 5, 3) := by decide +kernel
theorem d_X12_end_14 : decode mX12_end.2.2.1 14 = .ok (.aload_n 0, 1) := by decide +kernel
theorem d_X12_end_15 : decode mX12_end.2.2.1 15 = .ok (.iload_n 1, 1) := by decide +kernel
theorem d_X12_end_16 : decode mX12_end.2.2.1 16 = .ok (.putfield 13, 3) := by decide +kernel
theorem d_X12_end_19 : decode mX12_end.2.2.1 19 = .ok (.iconst 1, 1) := by decide +kernel
theorem d_X12_end_20 : decode mX12_end.2.2.1 20 = .ok (.ireturn, 1) := by decide +kernel
def mX12_fault : MD := (12, yX12_fault, cX12_fault, 2, some .int)
theorem d_X12_fault_0 : decode mX12_fault.2.2.1 0 = .ok (.iload_n 1, 1) := by decide +kernel
theorem d_X12_fault_1 : decode mX12_fault.2.2.1 1 = .ok (.ifCond .ne 10, 3) := by decide +kernel
theorem d_X12_fault_11 : decode mX12_fault.2.2.1 11 = .ok (.iload_n 1, 1) := by decide +kernel
theorem d_X12_fault_12 : decode mX12_fault.2.2.1 12 = .ok (.iconst 1, 1) := by decide +kernel
theorem d_X12_fault_13 : decode mX12_fault.2.2.1 13 = .ok (.if_icmp .ne 10, 3) := by decide +kernel
theorem d_X12_fault_23 : decode mX12_fault.2.2.1 23 = .ok (.iconst (-1), 1) := by decide +kernel
theorem d_X12_fault_24 : decode mX12_fault.2.2.1 24 = .ok (.ireturn, 1) := by decide +kernel
theorem d_X12_fault_16 : decode mX12_fault.2.2.1 16 = .ok (.aload_n 0, 1) := by decide +kernel
theorem d_X12_fault_17 : decode mX12_fault.2.2.1 17 = .ok (.getfield 45, 3) := by decide +kernel
theorem d_X12_fault_20 : decode mX12_fault.2.2.1 20 = .ok (.goto 4, 3) := by decide +kernel
theorem d_X12_fault_4 : decode mX12_fault.2.2.1 4 = .ok (.aload_n 0, 1) := by decide +kernel
theorem d_X12_fault_5 : decode mX12_fault.2.2.1 5 = .ok (.getfield 42, 3) := by decide +kernel
theorem d_X12_fault_8 : decode mX12_fault.2.2.1 8 = .ok (.goto 16, 3) := by decide +kernel
def mX12_has : MD := (12, yX12_has, cX12_has, 2, some .int)
theorem d_X12_has_0 : decode mX12_has.2.2.1 0 = .ok (.iload_n 1, 1) := by decide +kernel
theorem d_X12_has_1 : decode mX12_has.2.2.1 1 = .ok (.tableswitch 89 0 5 #[39, 49, 59, 69, 79, 84], 39) := by decide +kernel
theorem d_X12_has_90 : decode mX12_has.2.2.1 90 = .ok (.iconst (-1), 1) := by decide +kernel
theorem d_X12_has_91 : decode mX12_has.2.2.1 91 = .ok (.ireturn, 1) := by decide +kernel
theorem d_X12_has_85 : decode mX12_has.2.2.1 85 = .ok (.aload_n 0, 1) := by decide +kernel
theorem d_X12_has_86 : decode mX12_has.2.2.1 86 = .ok (.getfield 354, 3) := by decide +kernel
theorem d_X12_has_89 : decode mX12_has.2.2.1 89 = .ok (.ireturn, 1) := by decide +kernel
theorem d_X12_has_80 : decode mX12_has.2.2.1 80 = .ok (.aload_n 0, 1) := by decide +kernel
theorem d_X12_has_81 : decode mX12_has.2.2.1 81 = .ok (.getfield 333, 3) := by decide +kernel
theorem d_X12_has_84 : decode mX12_has.2.2.1 84 = .ok (.ireturn, 1) := by decide +kernel
theorem d_X12_has_70 : decode mX12_has.2.2.1 70 = .ok (.aload_n 0, 1) := by decide +kernel
theorem d_X12_has_71 : decode mX12_has.2.2.1 71 = .ok (.getfield 72, 3) := by decide +kernel
theorem d_X12_has_74 : decode mX12_has.2.2.1 74 = .ok (.aload_n 0, 1) := by decide +kernel
theorem d_X12_has_75 : decode mX12_has.2.2.1 75 = .ok (.getfield 48, 3) := by decide +kernel
theorem d_X12_has_78 : decode mX12_has.2.2.1 78 = .ok (.iaload, 1) := by decide +kernel
theorem d_X12_has_79 : decode mX12_has.2.2.1 79 = .ok (.ireturn, 1) := by decide +kernel
theorem d_X12_has_60 : decode mX12_has.2.2.1 60 = .ok (.aload_n 0, 1) := by decide +kernel
theorem d_X12_has_61 : decode mX12_has.2.2.1 61 = .ok (.getfield 69, 3) := by decide +kernel
theorem d_X12_has_64 : decode mX12_has.2.2.1 64 = .ok (.aload_n 0, 1) := by decide +kernel
theorem d_X12_has_65 : decode mX12_has.2.2.1 65 = .ok (.getfield 48, 3) := by decide +kernel
theorem d_X12_has_68 : decode mX12_has.2.2.1 68 = .ok (.iaload, 1) := by decide +kernel
theorem d_X12_has_69 : decode mX12_has.2.2.1 69 = .ok (.ireturn, 1) := by decide +kernel
theorem d_X12_has_50 : decode mX12_has.2.2.1 50 = .ok (.aload_n 0, 1) := by decide +kernel
theorem d_X12_has_51 : decode mX12_has.2.2.1 51 = .ok (.getfield 66, 3) := by decide +kernel
theorem d_X12_has_54 : decode mX12_has.2.2.1 54 = .ok (.aload_n 0, 1) := by decide +kernel
theorem d_X12_has_55 : decode mX12_has.2.2.1 55 = .ok (.getfield 48, 3) := by decide +kernel
theorem d_X12_has_58 : decode mX12_has.2.2.1 58 = .ok (.iaload, 1) := by decide +kernel
theorem d_X12_has_59 : decode mX12_has.2.2.1 59 = .ok (.ireturn, 1) := by decide +kernel
theorem d_X12_has_40 : decode mX12_has.2.2.1 40 = .ok (.aload_n 0, 1) := by decide +kernel
theorem d_X12_has_41 : decode mX12_has.2.2.1 41 = .ok (.getfield 63, 3) := by decide +kernel
theorem d_X12_has_44 : decode mX12_has.2.2.1 44 = .ok (.aload_n 0, 1) := by decide +kernel
theorem d_X12_has_45 : decode mX12_has.2.2.1 45 = .ok (.getfield 48, 3) := by decide +kernel
theorem d_X12_has_48 : decode mX12_has.2.2.1 48 = .ok (.iaload, 1) := by decide +kernel
theorem d_X12_has_49 : decode mX12_has.2.2.1 49 = .ok (.ireturn, 1) := by decide +kernel
def mX12_letter : MD := (12, yX12_letter, cX12_letter, 4, some .int)
theorem d_X12_letter_0 : decode mX12_letter.2.2.1 0 = .ok (.iload_n 1, 1) := by decide +kernel
theorem d_X12_letter_1 : decode mX12_letter.2.2.1 1 = .ok (.ifCond .ne 30, 3) := by decide +kernel
theorem d_X12_letter_4 : decode mX12_letter.2.2.1 4 = .ok (.aload_n 0, 1) := by decide +kernel
theorem d_X12_letter_5 : decode mX12_letter.2.2.1 5 = .ok (.iload_n 2, 1) := by decide +kernel
theorem d_X12_letter_6 : decode mX12_letter.2.2.1 6 = .ok (.invokevirtual 555, 3) := by decide +kernel
def mX12_isPart : MD := (12, yX12_isPart, cX12_isPart, 2, some .boolean)
theorem sel_X12_isPart : Cond.instanceMethod mX12_isPart.2.1 ∈ tblG ∧ Cond.selects mX12_isPart.2.1.cls mX12_isPart.2.1 mX12_isPart.2.1 ∈ tblG := ⟨tblG_in (inT9 (List.mem_of_getElem? (i := 32) rfl)) rfl, tblG_in (inP7 (q := (mX12_isPart.2.1, 121)) (List.mem_of_getElem? (i := 8) rfl)) rfl⟩
theorem s_12_555 : e_siteV 12 555 mX12_isPart 12 := ⟨tblG_in (inT9 (List.mem_of_getElem? (i := 30) rfl)) rfl, sel_X12_isPart.1, sel_X12_isPart.2, rfl⟩
theorem d_X12_isPart_0 : decode mX12_isPart.2.2.1 0 = .ok (.iload_n 1, 1) := by decide +kernel
theorem d_X12_isPart_1 : decode mX12_isPart.2.2.1 1 = .ok (.iconst 0, 1) := by decide +kernel
theorem d_X12_isPart_2 : decode mX12_isPart.2.2.1 2 = .ok (.aload_n 0, 1) := by decide +kernel
theorem d_X12_isPart_3 : decode mX12_isPart.2.2.1 3 = .ok (.getfield 63, 3) := by decide +kernel
theorem d_X12_isPart_6 : decode mX12_isPart.2.2.1 6 = .ok (.aload_n 0, 1) := by decide +kernel
theorem d_X12_isPart_7 : decode mX12_isPart.2.2.1 7 = .ok (.getfield 48, 3) := by decide +kernel
theorem d_X12_isPart_10 : decode mX12_isPart.2.2.1 10 = .ok (.iaload, 1) := by decide +kernel
theorem d_X12_isPart_11 : decode mX12_isPart.2.2.1 11 = .ok (.iconst 1, 1) := by decide +kernel
theorem d_X12_isPart_12 : decode mX12_isPart.2.2.1 12 = .ok (.isub, 1) := by decide +kernel
theorem d_X12_isPart_13 : decode mX12_isPart.2.2.1 13 = .ok (.invokestatic 467, 3) := by decide +kernel
def mX12_is : MD := (12, yX12_is, cX12_is, 3, some .boolean)
theorem s_12_467 : e_siteS 12 467 mX12_is := ⟨tblG_in (inT8 (List.mem_of_getElem? (i := 119) rfl)) rfl, tblG_in (inT8 (List.mem_of_getElem? (i := 120) rfl)) rfl⟩
theorem d_X12_is_0 : decode mX12_is.2.2.1 0 = .ok (.iload_n 0, 1) := by decide +kernel
theorem d_X12_is_1 : decode mX12_is.2.2.1 1 = .ok (.iload_n 1, 1) := by decide +kernel
theorem d_X12_is_2 : decode mX12_is.2.2.1 2 = .ok (.if_icmp .lt 12, 3) := by decide +kernel
theorem d_X12_is_14 : decode mX12_is.2.2.1 14 = .ok (.iconst 0, 1) := by decide +kernel
theorem d_X12_is_15 : decode mX12_is.2.2.1 15 = .ok (.ireturn, 1) := by decide +kernel
theorem d_X12_is_5 : decode mX12_is.2.2.1 5 = .ok (.iload_n 0, 1) := by decide +kernel
theorem d_X12_is_6 : decode mX12_is.2.2.1 6 = .ok (.iload_n 2, 1) := by decide +kernel
theorem d_X12_is_7 : decode mX12_is.2.2.1 7 = .ok (.if_icmp .gt 7, 3) := by decide +kernel
theorem d_X12_is_10 : decode mX12_is.2.2.1 10 = .ok (.iconst 1, 1) := by decide +kernel
theorem d_X12_is_11 : decode mX12_is.2.2.1 11 = .ok (.goto 4, 3) := by decide +kernel
theorem ok_X12_is : e_m mX12_is 3 := ⟨tblG_in (inT8 (List.mem_of_getElem? (i := 121) rfl)) rfl, plainFor_of_name (by decide), rfl, ini_12, by decide +kernel, by decide⟩
theorem d_X12_isPart_16 : decode mX12_isPart.2.2.1 16 = .ok (.ireturn, 1) := by decide +kernel
theorem ok_X12_isPart : e_m mX12_isPart 1 := ⟨tblG_in (inT9 (List.mem_of_getElem? (i := 33) rfl)) rfl, plainFor_of_name (by decide), rfl, ini_12, by decide +kernel, by decide⟩
theorem d_X12_letter_9 : decode mX12_letter.2.2.1 9 = .ok (.ifCond .eq 22, 3) := by decide +kernel
theorem d_X12_letter_12 : decode mX12_letter.2.2.1 12 = .ok (.aload_n 0, 1) := by decide +kernel
theorem d_X12_letter_13 : decode mX12_letter.2.2.1 13 = .ok (.getfield 75, 3) := by decide +kernel
theorem d_X12_letter_16 : decode mX12_letter.2.2.1 16 = .ok (.bipush 6, 2) := by decide +kernel
theorem d_X12_letter_18 : decode mX12_letter.2.2.1 18 = .ok (.aload_n 0, 1) := by decide +kernel
theorem d_X12_letter_19 : decode mX12_letter.2.2.1 19 = .ok (.getfield 48, 3) := by decide +kernel
theorem d_X12_letter_22 : decode mX12_letter.2.2.1 22 = .ok (.imul, 1) := by decide +kernel
theorem d_X12_letter_23 : decode mX12_letter.2.2.1 23 = .ok (.iload_n 2, 1) := by decide +kernel
theorem d_X12_letter_24 : decode mX12_letter.2.2.1 24 = .ok (.iadd, 1) := by decide +kernel
theorem d_X12_letter_25 : decode mX12_letter.2.2.1 25 = .ok (.laload, 1) := by decide +kernel
theorem d_X12_letter_26 : decode mX12_letter.2.2.1 26 = .ok (.iload_n 3, 1) := by decide +kernel
theorem d_X12_letter_27 : decode mX12_letter.2.2.1 27 = .ok (.invokestatic 558, 3) := by decide +kernel
def mX12_letterOf : MD := (12, yX12_letterOf, cX12_letterOf, 6, some .int)
theorem s_12_558 : e_siteS 12 558 mX12_letterOf := ⟨tblG_in (inT9 (List.mem_of_getElem? (i := 34) rfl)) rfl, tblG_in (inT9 (List.mem_of_getElem? (i := 35) rfl)) rfl⟩
theorem d_X12_letterOf_0 : decode mX12_letterOf.2.2.1 0 = .ok (.iconst 0, 1) := by decide +kernel
theorem d_X12_letterOf_1 : decode mX12_letterOf.2.2.1 1 = .ok (.istore_n 3, 1) := by decide +kernel
theorem d_X12_letterOf_2 : decode mX12_letterOf.2.2.1 2 = .ok (.lload_n 0, 1) := by decide +kernel
theorem d_X12_letterOf_3 : decode mX12_letterOf.2.2.1 3 = .ok (.lstore 4, 2) := by decide +kernel
theorem d_X12_letterOf_5 : decode mX12_letterOf.2.2.1 5 = .ok (.lload 4, 2) := by decide +kernel
theorem d_X12_letterOf_7 : decode mX12_letterOf.2.2.1 7 = .ok (.lconst 0, 1) := by decide +kernel
theorem d_X12_letterOf_8 : decode mX12_letterOf.2.2.1 8 = .ok (.lcmp, 1) := by decide +kernel
theorem d_X12_letterOf_9 : decode mX12_letterOf.2.2.1 9 = .ok (.ifCond .eq 16, 3) := by decide +kernel
theorem d_X12_letterOf_25 : decode mX12_letterOf.2.2.1 25 = .ok (.iload_n 2, 1) := by decide +kernel
theorem d_X12_letterOf_26 : decode mX12_letterOf.2.2.1 26 = .ok (.ifCond .lt 8, 3) := by decide +kernel
theorem d_X12_letterOf_34 : decode mX12_letterOf.2.2.1 34 = .ok (.iconst (-1), 1) := by decide +kernel
theorem d_X12_letterOf_35 : decode mX12_letterOf.2.2.1 35 = .ok (.goto 18, 3) := by decide +kernel
theorem d_X12_letterOf_53 : decode mX12_letterOf.2.2.1 53 = .ok (.ireturn, 1) := by decide +kernel
theorem d_X12_letterOf_29 : decode mX12_letterOf.2.2.1 29 = .ok (.iload_n 2, 1) := by decide +kernel
theorem d_X12_letterOf_30 : decode mX12_letterOf.2.2.1 30 = .ok (.iload_n 3, 1) := by decide +kernel
theorem d_X12_letterOf_31 : decode mX12_letterOf.2.2.1 31 = .ok (.if_icmp .lt 7, 3) := by decide +kernel
theorem d_X12_letterOf_12 : decode mX12_letterOf.2.2.1 12 = .ok (.iinc 3 1, 3) := by decide +kernel
theorem d_X12_letterOf_15 : decode mX12_letterOf.2.2.1 15 = .ok (.lload 4, 2) := by decide +kernel
theorem d_X12_letterOf_17 : decode mX12_letterOf.2.2.1 17 = .ok (.bipush 8, 2) := by decide +kernel
theorem d_X12_letterOf_19 : decode mX12_letterOf.2.2.1 19 = .ok (.lushr, 1) := by decide +kernel
theorem d_X12_letterOf_20 : decode mX12_letterOf.2.2.1 20 = .ok (.lstore 4, 2) := by decide +kernel
theorem d_X12_letterOf_22 : decode mX12_letterOf.2.2.1 22 = .ok (.goto (-17), 3) := by decide +kernel
theorem d_X12_letterOf_38 : decode mX12_letterOf.2.2.1 38 = .ok (.lload_n 0, 1) := by decide +kernel
theorem d_X12_letterOf_39 : decode mX12_letterOf.2.2.1 39 = .ok (.bipush 8, 2) := by decide +kernel
theorem d_X12_letterOf_41 : decode mX12_letterOf.2.2.1 41 = .ok (.iload_n 3, 1) := by decide +kernel
theorem d_X12_letterOf_42 : decode mX12_letterOf.2.2.1 42 = .ok (.iconst 1, 1) := by decide +kernel
theorem d_X12_letterOf_43 : decode mX12_letterOf.2.2.1 43 = .ok (.isub, 1) := by decide +kernel
theorem d_X12_letterOf_44 : decode mX12_letterOf.2.2.1 44 = .ok (.iload_n 2, 1) := by decide +kernel
theorem d_X12_letterOf_45 : decode mX12_letterOf.2.2.1 45 = .ok (.isub, 1) := by decide +kernel
theorem d_X12_letterOf_46 : decode mX12_letterOf.2.2.1 46 = .ok (.imul, 1) := by decide +kernel
theorem d_X12_letterOf_47 : decode mX12_letterOf.2.2.1 47 = .ok (.lushr, 1) := by decide +kernel
theorem d_X12_letterOf_48 : decode mX12_letterOf.2.2.1 48 = .ok (.ldc2_w 553, 3) := by decide +kernel
theorem kl_12_553 : Jvm.Cond.constantLong (e_cn 12) 553 (Int64.ofInt 255) ∈ tblG := tblG_in (inT9 (List.mem_of_getElem? (i := 37) rfl)) rfl
theorem d_X12_letterOf_51 : decode mX12_letterOf.2.2.1 51 = .ok (.land, 1) := by decide +kernel
theorem d_X12_letterOf_52 : decode mX12_letterOf.2.2.1 52 = .ok (.l2i, 1) := by decide +kernel
theorem ok_X12_letterOf : e_m mX12_letterOf 2 := ⟨tblG_in (inT9 (List.mem_of_getElem? (i := 36) rfl)) rfl, plainFor_of_name (by decide), rfl, ini_12, by decide +kernel, by decide⟩
theorem d_X12_letter_30 : decode mX12_letter.2.2.1 30 = .ok (.ireturn, 1) := by decide +kernel
theorem d_X12_letter_31 : decode mX12_letter.2.2.1 31 = .ok (.iload_n 1, 1) := by decide +kernel
theorem d_X12_letter_32 : decode mX12_letter.2.2.1 32 = .ok (.iconst 1, 1) := by decide +kernel
theorem d_X12_letter_33 : decode mX12_letter.2.2.1 33 = .ok (.if_icmp .ne 29, 3) := by decide +kernel
theorem d_X12_letter_36 : decode mX12_letter.2.2.1 36 = .ok (.aload_n 0, 1) := by decide +kernel
theorem d_X12_letter_37 : decode mX12_letter.2.2.1 37 = .ok (.iload_n 2, 1) := by decide +kernel
theorem d_X12_letter_38 : decode mX12_letter.2.2.1 38 = .ok (.invokevirtual 562, 3) := by decide +kernel
def mX12_isInput : MD := (12, yX12_isInput, cX12_isInput, 2, some .boolean)
theorem sel_X12_isInput : Cond.instanceMethod mX12_isInput.2.1 ∈ tblG ∧ Cond.selects mX12_isInput.2.1.cls mX12_isInput.2.1 mX12_isInput.2.1 ∈ tblG := ⟨tblG_in (inT9 (List.mem_of_getElem? (i := 40) rfl)) rfl, tblG_in (inP7 (q := (mX12_isInput.2.1, 121)) (List.mem_of_getElem? (i := 9) rfl)) rfl⟩
theorem s_12_562 : e_siteV 12 562 mX12_isInput 12 := ⟨tblG_in (inT9 (List.mem_of_getElem? (i := 38) rfl)) rfl, sel_X12_isInput.1, sel_X12_isInput.2, rfl⟩
theorem d_X12_isInput_0 : decode mX12_isInput.2.2.1 0 = .ok (.iload_n 1, 1) := by decide +kernel
theorem d_X12_isInput_1 : decode mX12_isInput.2.2.1 1 = .ok (.iconst 0, 1) := by decide +kernel
theorem d_X12_isInput_2 : decode mX12_isInput.2.2.1 2 = .ok (.aload_n 0, 1) := by decide +kernel
theorem d_X12_isInput_3 : decode mX12_isInput.2.2.1 3 = .ok (.getfield 66, 3) := by decide +kernel
theorem d_X12_isInput_6 : decode mX12_isInput.2.2.1 6 = .ok (.aload_n 0, 1) := by decide +kernel
theorem d_X12_isInput_7 : decode mX12_isInput.2.2.1 7 = .ok (.getfield 48, 3) := by decide +kernel
theorem d_X12_isInput_10 : decode mX12_isInput.2.2.1 10 = .ok (.iaload, 1) := by decide +kernel
theorem d_X12_isInput_11 : decode mX12_isInput.2.2.1 11 = .ok (.iconst 1, 1) := by decide +kernel
theorem d_X12_isInput_12 : decode mX12_isInput.2.2.1 12 = .ok (.isub, 1) := by decide +kernel
theorem d_X12_isInput_13 : decode mX12_isInput.2.2.1 13 = .ok (.invokestatic 467, 3) := by decide +kernel
theorem d_X12_isInput_16 : decode mX12_isInput.2.2.1 16 = .ok (.ireturn, 1) := by decide +kernel
theorem ok_X12_isInput : e_m mX12_isInput 1 := ⟨tblG_in (inT9 (List.mem_of_getElem? (i := 41) rfl)) rfl, plainFor_of_name (by decide), rfl, ini_12, by decide +kernel, by decide⟩
theorem d_X12_letter_41 : decode mX12_letter.2.2.1 41 = .ok (.ifCond .eq 21, 3) := by decide +kernel
theorem d_X12_letter_44 : decode mX12_letter.2.2.1 44 = .ok (.aload_n 0, 1) := by decide +kernel
theorem d_X12_letter_45 : decode mX12_letter.2.2.1 45 = .ok (.getfield 82, 3) := by decide +kernel
theorem d_X12_letter_48 : decode mX12_letter.2.2.1 48 = .ok (.iconst 3, 1) := by decide +kernel
theorem d_X12_letter_49 : decode mX12_letter.2.2.1 49 = .ok (.aload_n 0, 1) := by decide +kernel
theorem d_X12_letter_50 : decode mX12_letter.2.2.1 50 = .ok (.getfield 48, 3) := by decide +kernel
theorem d_X12_letter_53 : decode mX12_letter.2.2.1 53 = .ok (.imul, 1) := by decide +kernel
