/-! the words and the decoded instructions that the calls need; what the cells hold behind the constructors -/
def mX11_feed : MD := (11, yX11_feed, cX11_feed, 6, some .int)
theorem sel_X11_feed : Cond.instanceMethod mX11_feed.2.1 ∈ tblG ∧ Cond.selects mX11_feed.2.1.cls mX11_feed.2.1 mX11_feed.2.1 ∈ tblG := ⟨tblG_in (inT3 (List.mem_of_getElem? (i := 92) rfl)) rfl, tblG_in (inT3 (List.mem_of_getElem? (i := 93) rfl)) rfl⟩
theorem s_13_13 : e_siteV 13 13 mX11_feed 11 := ⟨tblG_in (inT3 (List.mem_of_getElem? (i := 91) rfl)) rfl, sel_X11_feed.1, sel_X11_feed.2, rfl⟩
theorem ok_X11_feed : e_m mX11_feed 5 := ⟨tblG_in (inT3 (List.mem_of_getElem? (i := 94) rfl)) rfl, by decide, rfl, ini_11, by decide +kernel, by decide⟩
theorem d_X11_feed_0 : decode mX11_feed.2.2.1 0 = .ok (.aload_n 0, 1) := by decide +kernel
theorem d_X11_feed_1 : decode mX11_feed.2.2.1 1 = .ok (.getfield 84, 3) := by decide +kernel
theorem f_11_84 : e_fld 11 84 11 1 14 0 false := ⟨RX11, TX11, 1, rfl, rfl, by decide, rfl, rfl, rfl, iX11, tblG_in (inT3 (List.mem_of_getElem? (i := 49) rfl)) rfl, tyX11_ok, nmX11⟩
theorem d_X11_feed_4 : decode mX11_feed.2.2.1 4 = .ok (.bipush 20, 2) := by decide +kernel
theorem d_X11_feed_6 : decode mX11_feed.2.2.1 6 = .ok (.iadd, 1) := by decide +kernel
theorem d_X11_feed_7 : decode mX11_feed.2.2.1 7 = .ok (.sipush 900, 3) := by decide +kernel
theorem d_X11_feed_10 : decode mX11_feed.2.2.1 10 = .ok (.if_icmp .le 5, 3) := by decide +kernel
theorem d_X11_feed_15 : decode mX11_feed.2.2.1 15 = .ok (.aload_n 0, 1) := by decide +kernel
theorem d_X11_feed_16 : decode mX11_feed.2.2.1 16 = .ok (.iload_n 1, 1) := by decide +kernel
theorem d_X11_feed_17 : decode mX11_feed.2.2.1 17 = .ok (.invokevirtual 88, 3) := by decide +kernel
def mX11_lay : MD := (11, yX11_lay, cX11_lay, 3, none)
theorem sel_X11_lay : Cond.instanceMethod mX11_lay.2.1 ∈ tblG ∧ Cond.selects mX11_lay.2.1.cls mX11_lay.2.1 mX11_lay.2.1 ∈ tblG := ⟨tblG_in (inT3 (List.mem_of_getElem? (i := 97) rfl)) rfl, tblG_in (inP1 (q := (mX11_lay.2.1, 14)) (List.mem_of_getElem? (i := 0) rfl)) rfl⟩
theorem s_11_88 : e_siteV 11 88 mX11_lay 11 := ⟨tblG_in (inT3 (List.mem_of_getElem? (i := 95) rfl)) rfl, sel_X11_lay.1, sel_X11_lay.2, rfl⟩
theorem ok_X11_lay : e_m mX11_lay 1 := ⟨tblG_in (inT3 (List.mem_of_getElem? (i := 98) rfl)) rfl, by decide, rfl, ini_11, by decide +kernel, by decide⟩
theorem d_X11_lay_0 : decode mX11_lay.2.2.1 0 = .ok (.bipush 24, 2) := by decide +kernel
theorem d_X11_lay_2 : decode mX11_lay.2.2.1 2 = .ok (.istore_n 2, 1) := by decide +kernel
theorem d_X11_lay_3 : decode mX11_lay.2.2.1 3 = .ok (.iload_n 2, 1) := by decide +kernel
theorem d_X11_lay_4 : decode mX11_lay.2.2.1 4 = .ok (.ifCond .lt 42, 3) := by decide +kernel
theorem d_X11_lay_7 : decode mX11_lay.2.2.1 7 = .ok (.aload_n 0, 1) := by decide +kernel
theorem d_X11_lay_8 : decode mX11_lay.2.2.1 8 = .ok (.getfield 84, 3) := by decide +kernel
theorem d_X11_lay_11 : decode mX11_lay.2.2.1 11 = .ok (.sipush 900, 3) := by decide +kernel
theorem d_X11_lay_14 : decode mX11_lay.2.2.1 14 = .ok (.if_icmp .ge 32, 3) := by decide +kernel
theorem d_X11_lay_17 : decode mX11_lay.2.2.1 17 = .ok (.aload_n 0, 1) := by decide +kernel
theorem d_X11_lay_18 : decode mX11_lay.2.2.1 18 = .ok (.getfield 9, 3) := by decide +kernel
theorem d_X11_lay_21 : decode mX11_lay.2.2.1 21 = .ok (.aload_n 0, 1) := by decide +kernel
theorem d_X11_lay_22 : decode mX11_lay.2.2.1 22 = .ok (.getfield 84, 3) := by decide +kernel
theorem d_X11_lay_25 : decode mX11_lay.2.2.1 25 = .ok (.iload_n 1, 1) := by decide +kernel
theorem d_X11_lay_26 : decode mX11_lay.2.2.1 26 = .ok (.iload_n 2, 1) := by decide +kernel
theorem d_X11_lay_27 : decode mX11_lay.2.2.1 27 = .ok (.ishr, 1) := by decide +kernel
theorem d_X11_lay_28 : decode mX11_lay.2.2.1 28 = .ok (.i2b, 1) := by decide +kernel
theorem d_X11_lay_29 : decode mX11_lay.2.2.1 29 = .ok (.bastore, 1) := by decide +kernel
theorem d_X11_lay_30 : decode mX11_lay.2.2.1 30 = .ok (.aload_n 0, 1) := by decide +kernel
theorem d_X11_lay_31 : decode mX11_lay.2.2.1 31 = .ok (.dup, 1) := by decide +kernel
theorem d_X11_lay_32 : decode mX11_lay.2.2.1 32 = .ok (.getfield 84, 3) := by decide +kernel
theorem d_X11_lay_35 : decode mX11_lay.2.2.1 35 = .ok (.iconst 1, 1) := by decide +kernel
theorem d_X11_lay_36 : decode mX11_lay.2.2.1 36 = .ok (.iadd, 1) := by decide +kernel
theorem d_X11_lay_37 : decode mX11_lay.2.2.1 37 = .ok (.putfield 84, 3) := by decide +kernel
theorem d_X11_lay_40 : decode mX11_lay.2.2.1 40 = .ok (.iinc 2 (-8), 3) := by decide +kernel
theorem d_X11_lay_43 : decode mX11_lay.2.2.1 43 = .ok (.goto (-40), 3) := by decide +kernel
theorem d_X11_lay_46 : decode mX11_lay.2.2.1 46 = .ok (.return_, 1) := by decide +kernel
theorem d_X11_feed_20 : decode mX11_feed.2.2.1 20 = .ok (.aload_n 0, 1) := by decide +kernel
theorem d_X11_feed_21 : decode mX11_feed.2.2.1 21 = .ok (.iload_n 2, 1) := by decide +kernel
theorem d_X11_feed_22 : decode mX11_feed.2.2.1 22 = .ok (.invokevirtual 88, 3) := by decide +kernel
theorem d_X11_feed_25 : decode mX11_feed.2.2.1 25 = .ok (.aload_n 0, 1) := by decide +kernel
theorem d_X11_feed_26 : decode mX11_feed.2.2.1 26 = .ok (.iload_n 3, 1) := by decide +kernel
theorem d_X11_feed_27 : decode mX11_feed.2.2.1 27 = .ok (.invokevirtual 88, 3) := by decide +kernel
theorem d_X11_feed_30 : decode mX11_feed.2.2.1 30 = .ok (.aload_n 0, 1) := by decide +kernel
theorem d_X11_feed_31 : decode mX11_feed.2.2.1 31 = .ok (.iload 4, 2) := by decide +kernel
theorem d_X11_feed_33 : decode mX11_feed.2.2.1 33 = .ok (.invokevirtual 88, 3) := by decide +kernel
theorem d_X11_feed_36 : decode mX11_feed.2.2.1 36 = .ok (.aload_n 0, 1) := by decide +kernel
theorem d_X11_feed_37 : decode mX11_feed.2.2.1 37 = .ok (.iload 5, 2) := by decide +kernel
theorem d_X11_feed_39 : decode mX11_feed.2.2.1 39 = .ok (.invokevirtual 88, 3) := by decide +kernel
theorem d_X11_feed_42 : decode mX11_feed.2.2.1 42 = .ok (.aload_n 0, 1) := by decide +kernel
theorem d_X11_feed_43 : decode mX11_feed.2.2.1 43 = .ok (.getfield 84, 3) := by decide +kernel
theorem d_X11_feed_46 : decode mX11_feed.2.2.1 46 = .ok (.ireturn, 1) := by decide +kernel
def mX12_feed : MD := (12, yX12_feed, cX12_feed, 6, some .int)
theorem sel_X12_feed : Cond.instanceMethod mX12_feed.2.1 ∈ tblG ∧ Cond.selects mX12_feed.2.1.cls mX12_feed.2.1 mX12_feed.2.1 ∈ tblG := ⟨tblG_in (inT8 (List.mem_of_getElem? (i := 77) rfl)) rfl, tblG_in (inT8 (List.mem_of_getElem? (i := 78) rfl)) rfl⟩
theorem s_13_17 : e_siteV 13 17 mX12_feed 12 := ⟨tblG_in (inT8 (List.mem_of_getElem? (i := 76) rfl)) rfl, sel_X12_feed.1, sel_X12_feed.2, rfl⟩
theorem ok_X12_feed : e_m mX12_feed 5 := ⟨tblG_in (inT8 (List.mem_of_getElem? (i := 79) rfl)) rfl, by decide, rfl, ini_12, by decide +kernel, by decide⟩
theorem d_X12_feed_0 : decode mX12_feed.2.2.1 0 = .ok (.aload_n 0, 1) := by decide +kernel
theorem d_X12_feed_1 : decode mX12_feed.2.2.1 1 = .ok (.getfield 13, 3) := by decide +kernel
theorem d_X12_feed_4 : decode mX12_feed.2.2.1 4 = .ok (.bipush 20, 2) := by decide +kernel
theorem d_X12_feed_6 : decode mX12_feed.2.2.1 6 = .ok (.iadd, 1) := by decide +kernel
theorem d_X12_feed_7 : decode mX12_feed.2.2.1 7 = .ok (.sipush 900, 3) := by decide +kernel
theorem d_X12_feed_10 : decode mX12_feed.2.2.1 10 = .ok (.if_icmp .le 5, 3) := by decide +kernel
theorem d_X12_feed_15 : decode mX12_feed.2.2.1 15 = .ok (.aload_n 0, 1) := by decide +kernel
theorem d_X12_feed_16 : decode mX12_feed.2.2.1 16 = .ok (.iload_n 1, 1) := by decide +kernel
theorem d_X12_feed_17 : decode mX12_feed.2.2.1 17 = .ok (.invokevirtual 378, 3) := by decide +kernel
def mX12_put : MD := (12, yX12_put, cX12_put, 3, none)
theorem sel_X12_put : Cond.instanceMethod mX12_put.2.1 ∈ tblG ∧ Cond.selects mX12_put.2.1.cls mX12_put.2.1 mX12_put.2.1 ∈ tblG := ⟨tblG_in (inT8 (List.mem_of_getElem? (i := 82) rfl)) rfl, tblG_in (inP5 (q := (mX12_put.2.1, 121)) (List.mem_of_getElem? (i := 8) rfl)) rfl⟩
theorem s_12_378 : e_siteV 12 378 mX12_put 12 := ⟨tblG_in (inT8 (List.mem_of_getElem? (i := 80) rfl)) rfl, sel_X12_put.1, sel_X12_put.2, rfl⟩
theorem ok_X12_put : e_m mX12_put 1 := ⟨tblG_in (inT8 (List.mem_of_getElem? (i := 83) rfl)) rfl, by decide, rfl, ini_12, by decide +kernel, by decide⟩
theorem d_X12_put_0 : decode mX12_put.2.2.1 0 = .ok (.bipush 24, 2) := by decide +kernel
theorem d_X12_put_2 : decode mX12_put.2.2.1 2 = .ok (.istore_n 2, 1) := by decide +kernel
theorem d_X12_put_3 : decode mX12_put.2.2.1 3 = .ok (.iload_n 2, 1) := by decide +kernel
theorem d_X12_put_4 : decode mX12_put.2.2.1 4 = .ok (.ifCond .lt 35, 3) := by decide +kernel
theorem d_X12_put_7 : decode mX12_put.2.2.1 7 = .ok (.aload_n 0, 1) := by decide +kernel
theorem d_X12_put_8 : decode mX12_put.2.2.1 8 = .ok (.getfield 7, 3) := by decide +kernel
theorem d_X12_put_11 : decode mX12_put.2.2.1 11 = .ok (.aload_n 0, 1) := by decide +kernel
theorem d_X12_put_12 : decode mX12_put.2.2.1 12 = .ok (.getfield 13, 3) := by decide +kernel
theorem d_X12_put_15 : decode mX12_put.2.2.1 15 = .ok (.iload_n 1, 1) := by decide +kernel
theorem d_X12_put_16 : decode mX12_put.2.2.1 16 = .ok (.iload_n 2, 1) := by decide +kernel
theorem d_X12_put_17 : decode mX12_put.2.2.1 17 = .ok (.ishr, 1) := by decide +kernel
theorem d_X12_put_18 : decode mX12_put.2.2.1 18 = .ok (.sipush 255, 3) := by decide +kernel
theorem d_X12_put_21 : decode mX12_put.2.2.1 21 = .ok (.iand, 1) := by decide +kernel
theorem d_X12_put_22 : decode mX12_put.2.2.1 22 = .ok (.iastore, 1) := by decide +kernel
theorem d_X12_put_23 : decode mX12_put.2.2.1 23 = .ok (.aload_n 0, 1) := by decide +kernel
theorem d_X12_put_24 : decode mX12_put.2.2.1 24 = .ok (.dup, 1) := by decide +kernel
theorem d_X12_put_25 : decode mX12_put.2.2.1 25 = .ok (.getfield 13, 3) := by decide +kernel
theorem d_X12_put_28 : decode mX12_put.2.2.1 28 = .ok (.iconst 1, 1) := by decide +kernel
theorem d_X12_put_29 : decode mX12_put.2.2.1 29 = .ok (.iadd, 1) := by decide +kernel
theorem d_X12_put_30 : decode mX12_put.2.2.1 30 = .ok (.putfield 13, 3) := by decide +kernel
theorem d_X12_put_33 : decode mX12_put.2.2.1 33 = .ok (.iinc 2 (-8), 3) := by decide +kernel
theorem d_X12_put_36 : decode mX12_put.2.2.1 36 = .ok (.goto (-33), 3) := by decide +kernel
theorem d_X12_put_39 : decode mX12_put.2.2.1 39 = .ok (.return_, 1) := by decide +kernel
theorem d_X12_feed_20 : decode mX12_feed.2.2.1 20 = .ok (.aload_n 0, 1) := by decide +kernel
theorem d_X12_feed_21 : decode mX12_feed.2.2.1 21 = .ok (.iload_n 2, 1) := by decide +kernel
theorem d_X12_feed_22 : decode mX12_feed.2.2.1 22 = .ok (.invokevirtual 378, 3) := by decide +kernel
theorem d_X12_feed_25 : decode mX12_feed.2.2.1 25 = .ok (.aload_n 0, 1) := by decide +kernel
theorem d_X12_feed_26 : decode mX12_feed.2.2.1 26 = .ok (.iload_n 3, 1) := by decide +kernel
theorem d_X12_feed_27 : decode mX12_feed.2.2.1 27 = .ok (.invokevirtual 378, 3) := by decide +kernel
theorem d_X12_feed_30 : decode mX12_feed.2.2.1 30 = .ok (.aload_n 0, 1) := by decide +kernel
theorem d_X12_feed_31 : decode mX12_feed.2.2.1 31 = .ok (.iload 4, 2) := by decide +kernel
theorem d_X12_feed_33 : decode mX12_feed.2.2.1 33 = .ok (.invokevirtual 378, 3) := by decide +kernel
theorem d_X12_feed_36 : decode mX12_feed.2.2.1 36 = .ok (.aload_n 0, 1) := by decide +kernel
theorem d_X12_feed_37 : decode mX12_feed.2.2.1 37 = .ok (.iload 5, 2) := by decide +kernel
theorem d_X12_feed_39 : decode mX12_feed.2.2.1 39 = .ok (.invokevirtual 378, 3) := by decide +kernel
theorem d_X12_feed_42 : decode mX12_feed.2.2.1 42 = .ok (.aload_n 0, 1) := by decide +kernel
theorem d_X12_feed_43 : decode mX12_feed.2.2.1 43 = .ok (.getfield 13, 3) := by decide +kernel
theorem d_X12_feed_46 : decode mX12_feed.2.2.1 46 = .ok (.ireturn, 1) := by decide +kernel
def mX11_end : MD := (11, yX11_end, cX11_end, 2, some .boolean)
theorem sel_X11_end : Cond.instanceMethod mX11_end.2.1 ∈ tblG ∧ Cond.selects mX11_end.2.1.cls mX11_end.2.1 mX11_end.2.1 ∈ tblG := ⟨tblG_in (inT3 (List.mem_of_getElem? (i := 100) rfl)) rfl, tblG_in (inT3 (List.mem_of_getElem? (i := 101) rfl)) rfl⟩
theorem s_13_18 : e_siteV 13 18 mX11_end 11 := ⟨tblG_in (inT3 (List.mem_of_getElem? (i := 99) rfl)) rfl, sel_X11_end.1, sel_X11_end.2, rfl⟩
theorem ok_X11_end : e_m mX11_end 1 := ⟨tblG_in (inT3 (List.mem_of_getElem? (i := 102) rfl)) rfl, by decide, rfl, ini_11, by decide +kernel, by decide⟩
theorem d_X11_end_0 : decode mX11_end.2.2.1 0 = .ok (.iload_n 1, 1) := by decide +kernel
theorem d_X11_end_1 : decode mX11_end.2.2.1 1 = .ok (.ifCond .lt 11, 3) := by decide +kernel
theorem d_X11_end_12 : decode mX11_end.2.2.1 12 = .ok (.iconst 0, 1) := by decide +kernel
theorem d_X11_end_13 : decode mX11_end.2.2.1 13 = .ok (.ireturn, 1) := by decide +kernel
def mX12_end : MD := (12, yX12_end, cX12_end, 2, some .boolean)
theorem sel_X12_end : Cond.instanceMethod mX12_end.2.1 ∈ tblG ∧ Cond.selects mX12_end.2.1.cls mX12_end.2.1 mX12_end.2.1 ∈ tblG := ⟨tblG_in (inT8 (List.mem_of_getElem? (i := 85) rfl)) rfl, tblG_in (inT8 (List.mem_of_getElem? (i := 86) rfl)) rfl⟩
theorem s_13_22 : e_siteV 13 22 mX12_end 12 := ⟨tblG_in (inT8 (List.mem_of_getElem? (i := 84) rfl)) rfl, sel_X12_end.1, sel_X12_end.2, rfl⟩
theorem ok_X12_end : e_m mX12_end 1 := ⟨tblG_in (inT8 (List.mem_of_getElem? (i := 87) rfl)) rfl, by decide, rfl, ini_12, by decide +kernel, by decide⟩
theorem d_X12_end_0 : decode mX12_end.2.2.1 0 = .ok (.iload_n 1, 1) := by decide +kernel
theorem d_X12_end_1 : decode mX12_end.2.2.1 1 = .ok (.ifCond .lt 11, 3) := by decide +kernel
theorem d_X12_end_12 : decode mX12_end.2.2.1 12 = .ok (.iconst 0, 1) := by decide +kernel
theorem d_X12_end_13 : decode mX12_end.2.2.1 13 = .ok (.ireturn, 1) := by decide +kernel
theorem d_X11_end_4 : decode mX11_end.2.2.1 4 = .ok (.iload_n 1, 1) := by decide +kernel
theorem d_X11_end_5 : decode mX11_end.2.2.1 5 = .ok (.aload_n 0, 1) := by decide +kernel
theorem d_X11_end_6 : decode mX11_end.2.2.1 6 = .ok (.getfield 84, 3) := by decide +kernel
theorem d_X11_end_9 : decode mX11_end.2.2.1 9 = .ok (.if_icmp .le 5, 3) := by decide +kernel
theorem d_X11_end_14 : decode mX11_end.2.2.1 14 = .ok (.aload_n 0, 1) := by decide +kernel
theorem d_X11_end_15 : decode mX11_end.2.2.1 15 = .ok (.iload_n 1, 1) := by decide +kernel
theorem d_X11_end_16 : decode mX11_end.2.2.1 16 = .ok (.putfield 84, 3) := by decide +kernel
theorem d_X11_end_19 : decode mX11_end.2.2.1 19 = .ok (.iconst 1, 1) := by decide +kernel
theorem d_X11_end_20 : decode mX11_end.2.2.1 20 = .ok (.ireturn, 1) := by decide +kernel
theorem d_X12_end_4 : decode mX12_end.2.2.1 4 = .ok (.iload_n 1, 1) := by decide +kernel
theorem d_X12_end_5 : decode mX12_end.2.2.1 5 = .ok (.aload_n 0, 1) := by decide +kernel
theorem d_X12_end_6 : decode mX12_end.2.2.1 6 = .ok (.getfield 13, 3) := by decide +kernel
theorem d_X12_end_9 : decode mX12_end.2.2.1 9 = .ok (.if_icmp .le 5, 3) := by decide +kernel
theorem d_X12_end_14 : decode mX12_end.2.2.1 14 = .ok (.aload_n 0, 1) := by decide +kernel
theorem d_X12_end_15 : decode mX12_end.2.2.1 15 = .ok (.iload_n 1, 1) := by decide +kernel
theorem d_X12_end_16 : decode mX12_end.2.2.1 16 = .ok (.putfield 13, 3) := by decide +kernel
theorem d_X12_end_19 : decode mX12_end.2.2.1 19 = .ok (.iconst 1, 1) := by decide +kernel
theorem d_X12_end_20 : decode mX12_end.2.2.1 20 = .ok (.ireturn, 1) := by decide +kernel
def mX11_text : MD := (11, yX11_text, cX11_text, 2, some .int)
theorem sel_X11_text : Cond.instanceMethod mX11_text.2.1 ∈ tblG ∧ Cond.selects mX11_text.2.1.cls mX11_text.2.1 mX11_text.2.1 ∈ tblG := ⟨tblG_in (inT3 (List.mem_of_getElem? (i := 104) rfl)) rfl, tblG_in (inT3 (List.mem_of_getElem? (i := 105) rfl)) rfl⟩
theorem s_13_23 : e_siteV 13 23 mX11_text 11 := ⟨tblG_in (inT3 (List.mem_of_getElem? (i := 103) rfl)) rfl, sel_X11_text.1, sel_X11_text.2, rfl⟩
theorem ok_X11_text : e_m mX11_text 0 := ⟨tblG_in (inT3 (List.mem_of_getElem? (i := 106) rfl)) rfl, by decide, rfl, ini_11, by decide +kernel, by decide⟩
theorem d_X11_text_0 : decode mX11_text.2.2.1 0 = .ok (.aload_n 0, 1) := by decide +kernel
theorem d_X11_text_1 : decode mX11_text.2.2.1 1 = .ok (.getfield 16, 3) := by decide +kernel
theorem d_X11_text_4 : decode mX11_text.2.2.1 4 = .ok (.aload_n 0, 1) := by decide +kernel
theorem d_X11_text_5 : decode mX11_text.2.2.1 5 = .ok (.getfield 9, 3) := by decide +kernel
theorem d_X11_text_8 : decode mX11_text.2.2.1 8 = .ok (.aload_n 0, 1) := by decide +kernel
theorem d_X11_text_9 : decode mX11_text.2.2.1 9 = .ok (.getfield 84, 3) := by decide +kernel
theorem d_X11_text_12 : decode mX11_text.2.2.1 12 = .ok (.invokevirtual 92, 3) := by decide +kernel
def mX7_takeApart : MD := (7, yX7_takeApart, cX7_takeApart, 8, none)
theorem sel_X7_takeApart : Cond.instanceMethod mX7_takeApart.2.1 ∈ tblG ∧ Cond.selects mX7_takeApart.2.1.cls mX7_takeApart.2.1 mX7_takeApart.2.1 ∈ tblG := ⟨tblG_in (inT3 (List.mem_of_getElem? (i := 108) rfl)) rfl, tblG_in (inT3 (List.mem_of_getElem? (i := 109) rfl)) rfl⟩
theorem s_11_92 : e_siteV 11 92 mX7_takeApart 7 := ⟨tblG_in (inT3 (List.mem_of_getElem? (i := 107) rfl)) rfl, sel_X7_takeApart.1, sel_X7_takeApart.2, rfl⟩
theorem ok_X7_takeApart : e_m mX7_takeApart 2 := ⟨tblG_in (inT3 (List.mem_of_getElem? (i := 110) rfl)) rfl, by decide, rfl, ini_7, by decide +kernel, by decide⟩
theorem d_X7_takeApart_0 : decode mX7_takeApart.2.2.1 0 = .ok (.aload_n 0, 1) := by decide +kernel
theorem d_X7_takeApart_1 : decode mX7_takeApart.2.2.1 1 = .ok (.aload_n 1, 1) := by decide +kernel
theorem d_X7_takeApart_2 : decode mX7_takeApart.2.2.1 2 = .ok (.putfield 21, 3) := by decide +kernel
theorem f_7_21 : e_fld 7 21 7 4 6 2 false := ⟨RX7, TX7, 4, rfl, rfl, by decide, rfl, rfl, rfl, iX7, tblG_in (inT1 (List.mem_of_getElem? (i := 45) rfl)) rfl, tyX7_ok, nmX7⟩
theorem d_X7_takeApart_5 : decode mX7_takeApart.2.2.1 5 = .ok (.aload_n 0, 1) := by decide +kernel
theorem d_X7_takeApart_6 : decode mX7_takeApart.2.2.1 6 = .ok (.iload_n 2, 1) := by decide +kernel
theorem d_X7_takeApart_7 : decode mX7_takeApart.2.2.1 7 = .ok (.putfield 25, 3) := by decide +kernel
theorem f_7_25 : e_fld 7 25 7 5 6 0 false := ⟨RX7, TX7, 5, rfl, rfl, by decide, rfl, rfl, rfl, iX7, tblG_in (inT1 (List.mem_of_getElem? (i := 46) rfl)) rfl, tyX7_ok, nmX7⟩
theorem d_X7_takeApart_10 : decode mX7_takeApart.2.2.1 10 = .ok (.aload_n 0, 1) := by decide +kernel
theorem d_X7_takeApart_11 : decode mX7_takeApart.2.2.1 11 = .ok (.iconst 0, 1) := by decide +kernel
theorem d_X7_takeApart_12 : decode mX7_takeApart.2.2.1 12 = .ok (.putfield 29, 3) := by decide +kernel
theorem f_7_29 : e_fld 7 29 7 3 6 0 false := ⟨RX7, TX7, 3, rfl, rfl, by decide, rfl, rfl, rfl, iX7, tblG_in (inT1 (List.mem_of_getElem? (i := 44) rfl)) rfl, tyX7_ok, nmX7⟩
theorem d_X7_takeApart_15 : decode mX7_takeApart.2.2.1 15 = .ok (.iconst 0, 1) := by decide +kernel
theorem d_X7_takeApart_16 : decode mX7_takeApart.2.2.1 16 = .ok (.istore_n 3, 1) := by decide +kernel
theorem d_X7_takeApart_17 : decode mX7_takeApart.2.2.1 17 = .ok (.iconst 0, 1) := by decide +kernel
theorem d_X7_takeApart_18 : decode mX7_takeApart.2.2.1 18 = .ok (.istore 4, 2) := by decide +kernel
theorem d_X7_takeApart_20 : decode mX7_takeApart.2.2.1 20 = .ok (.iconst 0, 1) := by decide +kernel
theorem d_X7_takeApart_21 : decode mX7_takeApart.2.2.1 21 = .ok (.istore 5, 2) := by decide +kernel
theorem d_X7_takeApart_23 : decode mX7_takeApart.2.2.1 23 = .ok (.iload 5, 2) := by decide +kernel
theorem d_X7_takeApart_25 : decode mX7_takeApart.2.2.1 25 = .ok (.sipush 900, 3) := by decide +kernel
theorem d_X7_takeApart_28 : decode mX7_takeApart.2.2.1 28 = .ok (.if_icmp .gt 76, 3) := by decide +kernel
theorem d_X7_takeApart_31 : decode mX7_takeApart.2.2.1 31 = .ok (.iload_n 3, 1) := by decide +kernel
theorem d_X7_takeApart_32 : decode mX7_takeApart.2.2.1 32 = .ok (.ifCond .lt 72, 3) := by decide +kernel
theorem d_X7_takeApart_35 : decode mX7_takeApart.2.2.1 35 = .ok (.aload_n 0, 1) := by decide +kernel
theorem d_X7_takeApart_36 : decode mX7_takeApart.2.2.1 36 = .ok (.iload_n 3, 1) := by decide +kernel
theorem d_X7_takeApart_37 : decode mX7_takeApart.2.2.1 37 = .ok (.invokevirtual 32, 3) := by decide +kernel
def mX7_skipBlanks : MD := (7, yX7_skipBlanks, cX7_skipBlanks, 3, some .int)
theorem sel_X7_skipBlanks : Cond.instanceMethod mX7_skipBlanks.2.1 ∈ tblG ∧ Cond.selects mX7_skipBlanks.2.1.cls mX7_skipBlanks.2.1 mX7_skipBlanks.2.1 ∈ tblG := ⟨tblG_in (inT3 (List.mem_of_getElem? (i := 113) rfl)) rfl, tblG_in (inP1 (q := (mX7_skipBlanks.2.1, 6)) (List.mem_of_getElem? (i := 1) rfl)) rfl⟩
theorem s_7_32 : e_siteV 7 32 mX7_skipBlanks 7 := ⟨tblG_in (inT3 (List.mem_of_getElem? (i := 111) rfl)) rfl, sel_X7_skipBlanks.1, sel_X7_skipBlanks.2, rfl⟩
theorem ok_X7_skipBlanks : e_m mX7_skipBlanks 1 := ⟨tblG_in (inT3 (List.mem_of_getElem? (i := 114) rfl)) rfl, by decide, rfl, ini_7, by decide +kernel, by decide⟩
theorem d_X7_skipBlanks_0 : decode mX7_skipBlanks.2.2.1 0 = .ok (.iload_n 1, 1) := by decide +kernel
theorem d_X7_skipBlanks_1 : decode mX7_skipBlanks.2.2.1 1 = .ok (.istore_n 2, 1) := by decide +kernel
theorem d_X7_skipBlanks_2 : decode mX7_skipBlanks.2.2.1 2 = .ok (.iload_n 2, 1) := by decide +kernel
theorem d_X7_skipBlanks_3 : decode mX7_skipBlanks.2.2.1 3 = .ok (.aload_n 0, 1) := by decide +kernel
theorem d_X7_skipBlanks_4 : decode mX7_skipBlanks.2.2.1 4 = .ok (.getfield 25, 3) := by decide +kernel
theorem d_X7_skipBlanks_7 : decode mX7_skipBlanks.2.2.1 7 = .ok (.if_icmp .ge 31, 3) := by decide +kernel
theorem d_X7_skipBlanks_38 : decode mX7_skipBlanks.2.2.1 38 = .ok (.iload_n 2, 1) := by decide +kernel
theorem d_X7_skipBlanks_39 : decode mX7_skipBlanks.2.2.1 39 = .ok (.ireturn, 1) := by decide +kernel
theorem d_X7_takeApart_40 : decode mX7_takeApart.2.2.1 40 = .ok (.istore 6, 2) := by decide +kernel
theorem d_X7_takeApart_42 : decode mX7_takeApart.2.2.1 42 = .ok (.iload 4, 2) := by decide +kernel
theorem d_X7_takeApart_44 : decode mX7_takeApart.2.2.1 44 = .ok (.ifCond .eq 13, 3) := by decide +kernel
theorem d_X7_takeApart_57 : decode mX7_takeApart.2.2.1 57 = .ok (.iconst 0, 1) := by decide +kernel
theorem d_X7_takeApart_58 : decode mX7_takeApart.2.2.1 58 = .ok (.istore 7, 2) := by decide +kernel
theorem d_X7_takeApart_60 : decode mX7_takeApart.2.2.1 60 = .ok (.aload_n 0, 1) := by decide +kernel
theorem d_X7_takeApart_61 : decode mX7_takeApart.2.2.1 61 = .ok (.iload 6, 2) := by decide +kernel
theorem d_X7_takeApart_63 : decode mX7_takeApart.2.2.1 63 = .ok (.iload 7, 2) := by decide +kernel
theorem d_X7_takeApart_65 : decode mX7_takeApart.2.2.1 65 = .ok (.invokevirtual 36, 3) := by decide +kernel
def mX7_takeOne : MD := (7, yX7_takeOne, cX7_takeOne, 4, some .int)
theorem sel_X7_takeOne : Cond.instanceMethod mX7_takeOne.2.1 ∈ tblG ∧ Cond.selects mX7_takeOne.2.1.cls mX7_takeOne.2.1 mX7_takeOne.2.1 ∈ tblG := ⟨tblG_in (inT3 (List.mem_of_getElem? (i := 117) rfl)) rfl, tblG_in (inP1 (q := (mX7_takeOne.2.1, 6)) (List.mem_of_getElem? (i := 2) rfl)) rfl⟩
theorem s_7_36 : e_siteV 7 36 mX7_takeOne 7 := ⟨tblG_in (inT3 (List.mem_of_getElem? (i := 115) rfl)) rfl, sel_X7_takeOne.1, sel_X7_takeOne.2, rfl⟩
theorem ok_X7_takeOne : e_m mX7_takeOne 2 := ⟨tblG_in (inT3 (List.mem_of_getElem? (i := 118) rfl)) rfl, by decide, rfl, ini_7, by decide +kernel, by decide⟩
theorem d_X7_takeOne_0 : decode mX7_takeOne.2.2.1 0 = .ok (.iload_n 1, 1) := by decide +kernel
theorem d_X7_takeOne_1 : decode mX7_takeOne.2.2.1 1 = .ok (.aload_n 0, 1) := by decide +kernel
theorem d_X7_takeOne_2 : decode mX7_takeOne.2.2.1 2 = .ok (.getfield 25, 3) := by decide +kernel
theorem d_X7_takeOne_5 : decode mX7_takeOne.2.2.1 5 = .ok (.if_icmp .lt 12, 3) := by decide +kernel
theorem d_X7_takeOne_8 : decode mX7_takeOne.2.2.1 8 = .ok (.aload_n 0, 1) := by decide +kernel
theorem d_X7_takeOne_9 : decode mX7_takeOne.2.2.1 9 = .ok (.iconst 0, 1) := by decide +kernel
theorem d_X7_takeOne_10 : decode mX7_takeOne.2.2.1 10 = .ok (.iload_n 1, 1) := by decide +kernel
theorem d_X7_takeOne_11 : decode mX7_takeOne.2.2.1 11 = .ok (.iconst 0, 1) := by decide +kernel
theorem d_X7_takeOne_12 : decode mX7_takeOne.2.2.1 12 = .ok (.iconst (-1), 1) := by decide +kernel
theorem d_X7_takeOne_13 : decode mX7_takeOne.2.2.1 13 = .ok (.invokevirtual 40, 3) := by decide +kernel
def mX7_add : MD := (7, yX7_add, cX7_add, 5, some .int)
theorem sel_X7_add : Cond.instanceMethod mX7_add.2.1 ∈ tblG ∧ Cond.selects mX7_add.2.1.cls mX7_add.2.1 mX7_add.2.1 ∈ tblG := ⟨tblG_in (inT3 (List.mem_of_getElem? (i := 121) rfl)) rfl, tblG_in (inP1 (q := (mX7_add.2.1, 6)) (List.mem_of_getElem? (i := 3) rfl)) rfl⟩
theorem s_7_40 : e_siteV 7 40 mX7_add 7 := ⟨tblG_in (inT3 (List.mem_of_getElem? (i := 119) rfl)) rfl, sel_X7_add.1, sel_X7_add.2, rfl⟩
theorem ok_X7_add : e_m mX7_add 4 := ⟨tblG_in (inT3 (List.mem_of_getElem? (i := 122) rfl)) rfl, by decide, rfl, ini_7, by decide +kernel, by decide⟩
theorem d_X7_add_0 : decode mX7_add.2.2.1 0 = .ok (.aload_n 0, 1) := by decide +kernel
theorem d_X7_add_1 : decode mX7_add.2.2.1 1 = .ok (.getfield 29, 3) := by decide +kernel
theorem d_X7_add_4 : decode mX7_add.2.2.1 4 = .ok (.aload_n 0, 1) := by decide +kernel
theorem d_X7_add_5 : decode mX7_add.2.2.1 5 = .ok (.getfield 9, 3) := by decide +kernel
theorem d_X7_add_8 : decode mX7_add.2.2.1 8 = .ok (.arraylength, 1) := by decide +kernel
theorem d_X7_add_9 : decode mX7_add.2.2.1 9 = .ok (.if_icmp .ge 43, 3) := by decide +kernel
theorem d_X7_add_12 : decode mX7_add.2.2.1 12 = .ok (.aload_n 0, 1) := by decide +kernel
theorem d_X7_add_13 : decode mX7_add.2.2.1 13 = .ok (.getfield 9, 3) := by decide +kernel
theorem d_X7_add_16 : decode mX7_add.2.2.1 16 = .ok (.aload_n 0, 1) := by decide +kernel
theorem d_X7_add_17 : decode mX7_add.2.2.1 17 = .ok (.getfield 29, 3) := by decide +kernel
theorem d_X7_add_20 : decode mX7_add.2.2.1 20 = .ok (.iload_n 1, 1) := by decide +kernel
theorem d_X7_add_21 : decode mX7_add.2.2.1 21 = .ok (.iastore, 1) := by decide +kernel
theorem d_X7_add_22 : decode mX7_add.2.2.1 22 = .ok (.aload_n 0, 1) := by decide +kernel
theorem d_X7_add_23 : decode mX7_add.2.2.1 23 = .ok (.getfield 15, 3) := by decide +kernel
theorem d_X7_add_26 : decode mX7_add.2.2.1 26 = .ok (.aload_n 0, 1) := by decide +kernel
theorem d_X7_add_27 : decode mX7_add.2.2.1 27 = .ok (.getfield 29, 3) := by decide +kernel
theorem d_X7_add_30 : decode mX7_add.2.2.1 30 = .ok (.iload_n 2, 1) := by decide +kernel
theorem d_X7_add_31 : decode mX7_add.2.2.1 31 = .ok (.iastore, 1) := by decide +kernel
theorem d_X7_add_32 : decode mX7_add.2.2.1 32 = .ok (.aload_n 0, 1) := by decide +kernel
theorem d_X7_add_33 : decode mX7_add.2.2.1 33 = .ok (.getfield 18, 3) := by decide +kernel
theorem d_X7_add_36 : decode mX7_add.2.2.1 36 = .ok (.aload_n 0, 1) := by decide +kernel
theorem d_X7_add_37 : decode mX7_add.2.2.1 37 = .ok (.getfield 29, 3) := by decide +kernel
theorem d_X7_add_40 : decode mX7_add.2.2.1 40 = .ok (.iload_n 3, 1) := by decide +kernel
theorem d_X7_add_41 : decode mX7_add.2.2.1 41 = .ok (.iastore, 1) := by decide +kernel
theorem d_X7_add_42 : decode mX7_add.2.2.1 42 = .ok (.aload_n 0, 1) := by decide +kernel
theorem d_X7_add_43 : decode mX7_add.2.2.1 43 = .ok (.dup, 1) := by decide +kernel
theorem d_X7_add_44 : decode mX7_add.2.2.1 44 = .ok (.getfield 29, 3) := by decide +kernel
theorem d_X7_add_47 : decode mX7_add.2.2.1 47 = .ok (.iconst 1, 1) := by decide +kernel
theorem d_X7_add_48 : decode mX7_add.2.2.1 48 = .ok (.iadd, 1) := by decide +kernel
theorem d_X7_add_49 : decode mX7_add.2.2.1 49 = .ok (.putfield 29, 3) := by decide +kernel
theorem d_X7_add_52 : decode mX7_add.2.2.1 52 = .ok (.iload 4, 2) := by decide +kernel
theorem d_X7_add_54 : decode mX7_add.2.2.1 54 = .ok (.ireturn, 1) := by decide +kernel
theorem d_X7_takeOne_16 : decode mX7_takeOne.2.2.1 16 = .ok (.ireturn, 1) := by decide +kernel
theorem d_X7_takeApart_68 : decode mX7_takeApart.2.2.1 68 = .ok (.istore_n 3, 1) := by decide +kernel
theorem d_X7_takeApart_69 : decode mX7_takeApart.2.2.1 69 = .ok (.aload_n 0, 1) := by decide +kernel
theorem d_X7_takeApart_70 : decode mX7_takeApart.2.2.1 70 = .ok (.getfield 29, 3) := by decide +kernel
theorem d_X7_takeApart_73 : decode mX7_takeApart.2.2.1 73 = .ok (.ifCond .le 22, 3) := by decide +kernel
theorem d_X7_takeApart_76 : decode mX7_takeApart.2.2.1 76 = .ok (.aload_n 0, 1) := by decide +kernel
theorem d_X7_takeApart_77 : decode mX7_takeApart.2.2.1 77 = .ok (.getfield 9, 3) := by decide +kernel
theorem d_X7_takeApart_80 : decode mX7_takeApart.2.2.1 80 = .ok (.aload_n 0, 1) := by decide +kernel
theorem d_X7_takeApart_81 : decode mX7_takeApart.2.2.1 81 = .ok (.getfield 29, 3) := by decide +kernel
theorem d_X7_takeApart_84 : decode mX7_takeApart.2.2.1 84 = .ok (.iconst 1, 1) := by decide +kernel
theorem d_X7_takeApart_85 : decode mX7_takeApart.2.2.1 85 = .ok (.isub, 1) := by decide +kernel
theorem d_X7_takeApart_86 : decode mX7_takeApart.2.2.1 86 = .ok (.iaload, 1) := by decide +kernel
theorem d_X7_takeApart_87 : decode mX7_takeApart.2.2.1 87 = .ok (.iconst 5, 1) := by decide +kernel
theorem d_X7_takeApart_88 : decode mX7_takeApart.2.2.1 88 = .ok (.if_icmp .eq 7, 3) := by decide +kernel
theorem d_X7_takeApart_91 : decode mX7_takeApart.2.2.1 91 = .ok (.iconst 1, 1) := by decide +kernel
theorem d_X7_takeApart_92 : decode mX7_takeApart.2.2.1 92 = .ok (.goto 4, 3) := by decide +kernel
theorem d_X7_takeApart_96 : decode mX7_takeApart.2.2.1 96 = .ok (.istore 4, 2) := by decide +kernel
theorem d_X7_takeApart_98 : decode mX7_takeApart.2.2.1 98 = .ok (.iinc 5 1, 3) := by decide +kernel
theorem d_X7_takeApart_101 : decode mX7_takeApart.2.2.1 101 = .ok (.goto (-78), 3) := by decide +kernel
theorem d_X7_takeApart_104 : decode mX7_takeApart.2.2.1 104 = .ok (.return_, 1) := by decide +kernel
theorem d_X11_text_15 : decode mX11_text.2.2.1 15 = .ok (.aload_n 0, 1) := by decide +kernel
theorem d_X11_text_16 : decode mX11_text.2.2.1 16 = .ok (.iconst 0, 1) := by decide +kernel
theorem d_X11_text_17 : decode mX11_text.2.2.1 17 = .ok (.putfield 84, 3) := by decide +kernel
theorem d_X11_text_20 : decode mX11_text.2.2.1 20 = .ok (.aload_n 0, 1) := by decide +kernel
theorem d_X11_text_21 : decode mX11_text.2.2.1 21 = .ok (.getfield 23, 3) := by decide +kernel
theorem d_X11_text_24 : decode mX11_text.2.2.1 24 = .ok (.aload_n 0, 1) := by decide +kernel
theorem d_X11_text_25 : decode mX11_text.2.2.1 25 = .ok (.getfield 16, 3) := by decide +kernel
theorem d_X11_text_28 : decode mX11_text.2.2.1 28 = .ok (.aload_n 0, 1) := by decide +kernel
theorem d_X11_text_29 : decode mX11_text.2.2.1 29 = .ok (.getfield 34, 3) := by decide +kernel
theorem d_X11_text_32 : decode mX11_text.2.2.1 32 = .ok (.invokevirtual 96, 3) := by decide +kernel
def mX5_read : MD := (5, yX5_read, cX5_read, 3, some .boolean)
theorem sel_X5_read : Cond.instanceMethod mX5_read.2.1 ∈ tblG ∧ Cond.selects mX5_read.2.1.cls mX5_read.2.1 mX5_read.2.1 ∈ tblG := ⟨tblG_in (inT4 (List.mem_of_getElem? (i := 14) rfl)) rfl, tblG_in (inT4 (List.mem_of_getElem? (i := 15) rfl)) rfl⟩
theorem s_11_96 : e_siteV 11 96 mX5_read 5 := ⟨tblG_in (inT4 (List.mem_of_getElem? (i := 13) rfl)) rfl, sel_X5_read.1, sel_X5_read.2, rfl⟩
theorem ok_X5_read : e_m mX5_read 2 := ⟨tblG_in (inT4 (List.mem_of_getElem? (i := 16) rfl)) rfl, by decide, rfl, ini_5, by decide +kernel, by decide⟩
theorem d_X5_read_0 : decode mX5_read.2.2.1 0 = .ok (.aload_n 0, 1) := by decide +kernel
theorem d_X5_read_1 : decode mX5_read.2.2.1 1 = .ok (.aload_n 1, 1) := by decide +kernel
theorem d_X5_read_2 : decode mX5_read.2.2.1 2 = .ok (.putfield 18, 3) := by decide +kernel
theorem f_5_18 : e_fld 5 18 5 2 7 2 false := ⟨RX5, TX5, 2, rfl, rfl, by decide, rfl, rfl, rfl, iX5, tblG_in (inT1 (List.mem_of_getElem? (i := 72) rfl)) rfl, tyX5_ok, nmX5⟩
theorem d_X5_read_5 : decode mX5_read.2.2.1 5 = .ok (.aload_n 0, 1) := by decide +kernel
theorem d_X5_read_6 : decode mX5_read.2.2.1 6 = .ok (.aload_n 2, 1) := by decide +kernel
theorem d_X5_read_7 : decode mX5_read.2.2.1 7 = .ok (.putfield 22, 3) := by decide +kernel
theorem f_5_22 : e_fld 5 22 5 3 7 2 false := ⟨RX5, TX5, 3, rfl, rfl, by decide, rfl, rfl, rfl, iX5, tblG_in (inT1 (List.mem_of_getElem? (i := 73) rfl)) rfl, tyX5_ok, nmX5⟩
theorem d_X5_read_10 : decode mX5_read.2.2.1 10 = .ok (.aload_n 0, 1) := by decide +kernel
theorem d_X5_read_11 : decode mX5_read.2.2.1 11 = .ok (.aload_n 2, 1) := by decide +kernel
theorem d_X5_read_12 : decode mX5_read.2.2.1 12 = .ok (.getfield 26, 3) := by decide +kernel
theorem f_5_26 : e_fld 5 26 3 11 12 2 true := ⟨RX3, TX3, 11, rfl, rfl, by decide, rfl, rfl, rfl, iX3, tblG_in (inT1 (List.mem_of_getElem? (i := 204) rfl)) rfl, tyX3_ok, nmX3⟩
theorem d_X5_read_15 : decode mX5_read.2.2.1 15 = .ok (.putfield 32, 3) := by decide +kernel
theorem f_5_32 : e_fld 5 32 5 4 7 2 false := ⟨RX5, TX5, 4, rfl, rfl, by decide, rfl, rfl, rfl, iX5, tblG_in (inT1 (List.mem_of_getElem? (i := 74) rfl)) rfl, tyX5_ok, nmX5⟩
theorem d_X5_read_18 : decode mX5_read.2.2.1 18 = .ok (.aload_n 0, 1) := by decide +kernel
theorem d_X5_read_19 : decode mX5_read.2.2.1 19 = .ok (.getfield 22, 3) := by decide +kernel
theorem d_X5_read_22 : decode mX5_read.2.2.1 22 = .ok (.invokevirtual 33, 3) := by decide +kernel
theorem s_5_33 : e_siteV 5 33 mX3_clear 3 := ⟨tblG_in (inT4 (List.mem_of_getElem? (i := 17) rfl)) rfl, sel_X3_clear.1, sel_X3_clear.2, rfl⟩
theorem d_X5_read_25 : decode mX5_read.2.2.1 25 = .ok (.aload_n 0, 1) := by decide +kernel
theorem d_X5_read_26 : decode mX5_read.2.2.1 26 = .ok (.iconst 0, 1) := by decide +kernel
theorem d_X5_read_27 : decode mX5_read.2.2.1 27 = .ok (.putfield 36, 3) := by decide +kernel
theorem f_5_36 : e_fld 5 36 5 5 7 0 false := ⟨RX5, TX5, 5, rfl, rfl, by decide, rfl, rfl, rfl, iX5, tblG_in (inT1 (List.mem_of_getElem? (i := 75) rfl)) rfl, tyX5_ok, nmX5⟩
theorem d_X5_read_30 : decode mX5_read.2.2.1 30 = .ok (.aload_n 0, 1) := by decide +kernel
theorem d_X5_read_31 : decode mX5_read.2.2.1 31 = .ok (.iconst 0, 1) := by decide +kernel
theorem d_X5_read_32 : decode mX5_read.2.2.1 32 = .ok (.putfield 39, 3) := by decide +kernel
theorem f_5_39 : e_fld 5 39 5 6 7 0 false := ⟨RX5, TX5, 6, rfl, rfl, by decide, rfl, rfl, rfl, iX5, tblG_in (inT1 (List.mem_of_getElem? (i := 76) rfl)) rfl, tyX5_ok, nmX5⟩
theorem d_X5_read_35 : decode mX5_read.2.2.1 35 = .ok (.aload_n 0, 1) := by decide +kernel
theorem d_X5_read_36 : decode mX5_read.2.2.1 36 = .ok (.iconst 0, 1) := by decide +kernel
theorem d_X5_read_37 : decode mX5_read.2.2.1 37 = .ok (.putfield 9, 3) := by decide +kernel
theorem d_X5_read_40 : decode mX5_read.2.2.1 40 = .ok (.aload_n 0, 1) := by decide +kernel
theorem d_X5_read_41 : decode mX5_read.2.2.1 41 = .ok (.iconst (-1), 1) := by decide +kernel
theorem d_X5_read_42 : decode mX5_read.2.2.1 42 = .ok (.putfield 15, 3) := by decide +kernel
theorem d_X5_read_45 : decode mX5_read.2.2.1 45 = .ok (.aload_n 0, 1) := by decide +kernel
theorem d_X5_read_46 : decode mX5_read.2.2.1 46 = .ok (.invokevirtual 42, 3) := by decide +kernel
def mX5_declarations : MD := (5, yX5_declarations, cX5_declarations, 3, some .boolean)
theorem sel_X5_declarations : Cond.instanceMethod mX5_declarations.2.1 ∈ tblG ∧ Cond.selects mX5_declarations.2.1.cls mX5_declarations.2.1 mX5_declarations.2.1 ∈ tblG := ⟨tblG_in (inT4 (List.mem_of_getElem? (i := 20) rfl)) rfl, tblG_in (inP1 (q := (mX5_declarations.2.1, 7)) (List.mem_of_getElem? (i := 8) rfl)) rfl⟩
theorem s_5_42 : e_siteV 5 42 mX5_declarations 5 := ⟨tblG_in (inT4 (List.mem_of_getElem? (i := 18) rfl)) rfl, sel_X5_declarations.1, sel_X5_declarations.2, rfl⟩
theorem ok_X5_declarations : e_m mX5_declarations 0 := ⟨tblG_in (inT4 (List.mem_of_getElem? (i := 21) rfl)) rfl, by decide, rfl, ini_5, by decide +kernel, by decide⟩
theorem d_X5_declarations_0 : decode mX5_declarations.2.2.1 0 = .ok (.iconst 1, 1) := by decide +kernel
theorem d_X5_declarations_1 : decode mX5_declarations.2.2.1 1 = .ok (.istore_n 1, 1) := by decide +kernel
theorem d_X5_declarations_2 : decode mX5_declarations.2.2.1 2 = .ok (.iconst 0, 1) := by decide +kernel
theorem d_X5_declarations_3 : decode mX5_declarations.2.2.1 3 = .ok (.istore_n 2, 1) := by decide +kernel
theorem d_X5_declarations_4 : decode mX5_declarations.2.2.1 4 = .ok (.iload_n 2, 1) := by decide +kernel
theorem d_X5_declarations_5 : decode mX5_declarations.2.2.1 5 = .ok (.sipush 900, 3) := by decide +kernel
theorem d_X5_declarations_8 : decode mX5_declarations.2.2.1 8 = .ok (.if_icmp .ge 62, 3) := by decide +kernel
theorem d_X5_declarations_11 : decode mX5_declarations.2.2.1 11 = .ok (.iload_n 1, 1) := by decide +kernel
theorem d_X5_declarations_12 : decode mX5_declarations.2.2.1 12 = .ok (.ifCond .eq 58, 3) := by decide +kernel
theorem d_X5_declarations_15 : decode mX5_declarations.2.2.1 15 = .ok (.aload_n 0, 1) := by decide +kernel
theorem d_X5_declarations_16 : decode mX5_declarations.2.2.1 16 = .ok (.getfield 18, 3) := by decide +kernel
theorem d_X5_declarations_19 : decode mX5_declarations.2.2.1 19 = .ok (.getfield 50, 3) := by decide +kernel
theorem f_5_50 : e_fld 5 50 7 0 6 2 true := ⟨RX7, TX7, 0, rfl, rfl, by decide, rfl, rfl, rfl, iX7, tblG_in (inT1 (List.mem_of_getElem? (i := 39) rfl)) rfl, tyX7_ok, nmX7⟩
theorem d_X5_declarations_22 : decode mX5_declarations.2.2.1 22 = .ok (.aload_n 0, 1) := by decide +kernel
theorem d_X5_declarations_23 : decode mX5_declarations.2.2.1 23 = .ok (.getfield 36, 3) := by decide +kernel
theorem d_X5_declarations_26 : decode mX5_declarations.2.2.1 26 = .ok (.iaload, 1) := by decide +kernel
theorem d_X5_declarations_27 : decode mX5_declarations.2.2.1 27 = .ok (.iconst 2, 1) := by decide +kernel
theorem d_X5_declarations_28 : decode mX5_declarations.2.2.1 28 = .ok (.if_icmp .ne 42, 3) := by decide +kernel
theorem d_X5_declarations_70 : decode mX5_declarations.2.2.1 70 = .ok (.iload_n 1, 1) := by decide +kernel
theorem d_X5_declarations_71 : decode mX5_declarations.2.2.1 71 = .ok (.ireturn, 1) := by decide +kernel
theorem d_X5_read_49 : decode mX5_read.2.2.1 49 = .ok (.ifCond .eq 13, 3) := by decide +kernel
theorem d_X5_read_52 : decode mX5_read.2.2.1 52 = .ok (.aload_n 0, 1) := by decide +kernel
theorem d_X5_read_53 : decode mX5_read.2.2.1 53 = .ok (.iconst (-1), 1) := by decide +kernel
theorem d_X5_read_54 : decode mX5_read.2.2.1 54 = .ok (.invokevirtual 46, 3) := by decide +kernel
def mX5_orders : MD := (5, yX5_orders, cX5_orders, 6, some .int)
theorem sel_X5_orders : Cond.instanceMethod mX5_orders.2.1 ∈ tblG ∧ Cond.selects mX5_orders.2.1.cls mX5_orders.2.1 mX5_orders.2.1 ∈ tblG := ⟨tblG_in (inT4 (List.mem_of_getElem? (i := 96) rfl)) rfl, tblG_in (inP2 (q := (mX5_orders.2.1, 7)) (List.mem_of_getElem? (i := 7) rfl)) rfl⟩
theorem s_5_46 : e_siteV 5 46 mX5_orders 5 := ⟨tblG_in (inT4 (List.mem_of_getElem? (i := 94) rfl)) rfl, sel_X5_orders.1, sel_X5_orders.2, rfl⟩
theorem ok_X5_orders : e_m mX5_orders 1 := ⟨tblG_in (inT4 (List.mem_of_getElem? (i := 97) rfl)) rfl, by decide, rfl, ini_5, by decide +kernel, by decide⟩
theorem d_X5_orders_0 : decode mX5_orders.2.2.1 0 = .ok (.iconst (-1), 1) := by decide +kernel
theorem d_X5_orders_1 : decode mX5_orders.2.2.1 1 = .ok (.istore_n 2, 1) := by decide +kernel
theorem d_X5_orders_2 : decode mX5_orders.2.2.1 2 = .ok (.iconst (-1), 1) := by decide +kernel
theorem d_X5_orders_3 : decode mX5_orders.2.2.1 3 = .ok (.istore_n 3, 1) := by decide +kernel
theorem d_X5_orders_4 : decode mX5_orders.2.2.1 4 = .ok (.iconst 0, 1) := by decide +kernel
theorem d_X5_orders_5 : decode mX5_orders.2.2.1 5 = .ok (.istore 4, 2) := by decide +kernel
theorem d_X5_orders_7 : decode mX5_orders.2.2.1 7 = .ok (.iload 4, 2) := by decide +kernel
theorem d_X5_orders_9 : decode mX5_orders.2.2.1 9 = .ok (.bipush 60, 2) := by decide +kernel
theorem d_X5_orders_11 : decode mX5_orders.2.2.1 11 = .ok (.if_icmp .gt 100, 3) := by decide +kernel
theorem d_X5_orders_14 : decode mX5_orders.2.2.1 14 = .ok (.aload_n 0, 1) := by decide +kernel
theorem d_X5_orders_15 : decode mX5_orders.2.2.1 15 = .ok (.invokevirtual 154, 3) := by decide +kernel
def mX5_isOrder : MD := (5, yX5_isOrder, cX5_isOrder, 2, some .boolean)
theorem sel_X5_isOrder : Cond.instanceMethod mX5_isOrder.2.1 ∈ tblG ∧ Cond.selects mX5_isOrder.2.1.cls mX5_isOrder.2.1 mX5_isOrder.2.1 ∈ tblG := ⟨tblG_in (inT4 (List.mem_of_getElem? (i := 100) rfl)) rfl, tblG_in (inP2 (q := (mX5_isOrder.2.1, 7)) (List.mem_of_getElem? (i := 8) rfl)) rfl⟩
theorem s_5_154 : e_siteV 5 154 mX5_isOrder 5 := ⟨tblG_in (inT4 (List.mem_of_getElem? (i := 98) rfl)) rfl, sel_X5_isOrder.1, sel_X5_isOrder.2, rfl⟩
theorem ok_X5_isOrder : e_m mX5_isOrder 0 := ⟨tblG_in (inT4 (List.mem_of_getElem? (i := 101) rfl)) rfl, by decide, rfl, ini_5, by decide +kernel, by decide⟩
theorem d_X5_isOrder_0 : decode mX5_isOrder.2.2.1 0 = .ok (.aload_n 0, 1) := by decide +kernel
theorem d_X5_isOrder_1 : decode mX5_isOrder.2.2.1 1 = .ok (.getfield 18, 3) := by decide +kernel
theorem d_X5_isOrder_4 : decode mX5_isOrder.2.2.1 4 = .ok (.getfield 68, 3) := by decide +kernel
theorem f_5_68 : e_fld 5 68 7 2 6 2 true := ⟨RX7, TX7, 2, rfl, rfl, by decide, rfl, rfl, rfl, iX7, tblG_in (inT1 (List.mem_of_getElem? (i := 43) rfl)) rfl, tyX7_ok, nmX7⟩
theorem d_X5_isOrder_7 : decode mX5_isOrder.2.2.1 7 = .ok (.aload_n 0, 1) := by decide +kernel
theorem d_X5_isOrder_8 : decode mX5_isOrder.2.2.1 8 = .ok (.getfield 36, 3) := by decide +kernel
theorem d_X5_isOrder_11 : decode mX5_isOrder.2.2.1 11 = .ok (.iaload, 1) := by decide +kernel
theorem d_X5_isOrder_12 : decode mX5_isOrder.2.2.1 12 = .ok (.istore_n 1, 1) := by decide +kernel
theorem d_X5_isOrder_13 : decode mX5_isOrder.2.2.1 13 = .ok (.aload_n 0, 1) := by decide +kernel
theorem d_X5_isOrder_14 : decode mX5_isOrder.2.2.1 14 = .ok (.getfield 18, 3) := by decide +kernel
theorem d_X5_isOrder_17 : decode mX5_isOrder.2.2.1 17 = .ok (.getfield 50, 3) := by decide +kernel
theorem d_X5_isOrder_20 : decode mX5_isOrder.2.2.1 20 = .ok (.aload_n 0, 1) := by decide +kernel
theorem d_X5_isOrder_21 : decode mX5_isOrder.2.2.1 21 = .ok (.getfield 36, 3) := by decide +kernel
theorem d_X5_isOrder_24 : decode mX5_isOrder.2.2.1 24 = .ok (.iaload, 1) := by decide +kernel
theorem d_X5_isOrder_25 : decode mX5_isOrder.2.2.1 25 = .ok (.iconst 2, 1) := by decide +kernel
theorem d_X5_isOrder_26 : decode mX5_isOrder.2.2.1 26 = .ok (.if_icmp .ne 18, 3) := by decide +kernel
theorem d_X5_isOrder_44 : decode mX5_isOrder.2.2.1 44 = .ok (.iconst 0, 1) := by decide +kernel
theorem d_X5_isOrder_45 : decode mX5_isOrder.2.2.1 45 = .ok (.ireturn, 1) := by decide +kernel
theorem d_X5_orders_18 : decode mX5_orders.2.2.1 18 = .ok (.ifCond .eq 93, 3) := by decide +kernel
theorem d_X5_orders_111 : decode mX5_orders.2.2.1 111 = .ok (.iload_n 2, 1) := by decide +kernel
theorem d_X5_orders_112 : decode mX5_orders.2.2.1 112 = .ok (.ireturn, 1) := by decide +kernel
theorem d_X5_read_57 : decode mX5_read.2.2.1 57 = .ok (.bipush (-2), 2) := by decide +kernel
theorem d_X5_read_59 : decode mX5_read.2.2.1 59 = .ok (.if_icmp .ne 5, 3) := by decide +kernel
theorem d_X5_read_64 : decode mX5_read.2.2.1 64 = .ok (.aload_n 0, 1) := by decide +kernel
theorem d_X5_read_65 : decode mX5_read.2.2.1 65 = .ok (.getfield 18, 3) := by decide +kernel
theorem d_X5_read_68 : decode mX5_read.2.2.1 68 = .ok (.getfield 50, 3) := by decide +kernel
theorem d_X5_read_71 : decode mX5_read.2.2.1 71 = .ok (.aload_n 0, 1) := by decide +kernel
theorem d_X5_read_72 : decode mX5_read.2.2.1 72 = .ok (.getfield 36, 3) := by decide +kernel
theorem d_X5_read_75 : decode mX5_read.2.2.1 75 = .ok (.iaload, 1) := by decide +kernel
theorem d_X5_read_76 : decode mX5_read.2.2.1 76 = .ok (.ifCond .eq 9, 3) := by decide +kernel
theorem d_X5_read_85 : decode mX5_read.2.2.1 85 = .ok (.aload_n 0, 1) := by decide +kernel
theorem d_X5_read_86 : decode mX5_read.2.2.1 86 = .ok (.getfield 32, 3) := by decide +kernel
theorem d_X5_read_89 : decode mX5_read.2.2.1 89 = .ok (.invokevirtual 60, 3) := by decide +kernel
def mX4_link : MD := (4, yX4_link, cX4_link, 3, none)
theorem sel_X4_link : Cond.instanceMethod mX4_link.2.1 ∈ tblG ∧ Cond.selects mX4_link.2.1.cls mX4_link.2.1 mX4_link.2.1 ∈ tblG := ⟨tblG_in (inT4 (List.mem_of_getElem? (i := 184) rfl)) rfl, tblG_in (inT4 (List.mem_of_getElem? (i := 185) rfl)) rfl⟩
theorem s_5_60 : e_siteV 5 60 mX4_link 4 := ⟨tblG_in (inT4 (List.mem_of_getElem? (i := 183) rfl)) rfl, sel_X4_link.1, sel_X4_link.2, rfl⟩
theorem ok_X4_link : e_m mX4_link 0 := ⟨tblG_in (inT4 (List.mem_of_getElem? (i := 186) rfl)) rfl, by decide, rfl, ini_4, by decide +kernel, by decide⟩
theorem d_X4_link_0 : decode mX4_link.2.2.1 0 = .ok (.aload_n 0, 1) := by decide +kernel
theorem d_X4_link_1 : decode mX4_link.2.2.1 1 = .ok (.getfield 18, 3) := by decide +kernel
theorem d_X4_link_4 : decode mX4_link.2.2.1 4 = .ok (.aload_n 0, 1) := by decide +kernel
theorem d_X4_link_5 : decode mX4_link.2.2.1 5 = .ok (.getfield 45, 3) := by decide +kernel
theorem d_X4_link_8 : decode mX4_link.2.2.1 8 = .ok (.aload_n 0, 1) := by decide +kernel
theorem d_X4_link_9 : decode mX4_link.2.2.1 9 = .ok (.getfield 49, 3) := by decide +kernel
theorem d_X4_link_12 : decode mX4_link.2.2.1 12 = .ok (.iastore, 1) := by decide +kernel
theorem d_X4_link_13 : decode mX4_link.2.2.1 13 = .ok (.iconst 0, 1) := by decide +kernel
theorem d_X4_link_14 : decode mX4_link.2.2.1 14 = .ok (.istore_n 1, 1) := by decide +kernel
theorem d_X4_link_15 : decode mX4_link.2.2.1 15 = .ok (.iload_n 1, 1) := by decide +kernel
theorem d_X4_link_16 : decode mX4_link.2.2.1 16 = .ok (.aload_n 0, 1) := by decide +kernel
theorem d_X4_link_17 : decode mX4_link.2.2.1 17 = .ok (.getfield 45, 3) := by decide +kernel
theorem d_X4_link_20 : decode mX4_link.2.2.1 20 = .ok (.if_icmp .ge 87, 3) := by decide +kernel
theorem d_X4_link_107 : decode mX4_link.2.2.1 107 = .ok (.return_, 1) := by decide +kernel
theorem d_X5_read_92 : decode mX5_read.2.2.1 92 = .ok (.iconst 1, 1) := by decide +kernel
theorem d_X5_read_93 : decode mX5_read.2.2.1 93 = .ok (.ireturn, 1) := by decide +kernel
theorem d_X11_text_35 : decode mX11_text.2.2.1 35 = .ok (.ifCond .ne 5, 3) := by decide +kernel
theorem d_X11_text_40 : decode mX11_text.2.2.1 40 = .ok (.aload_n 0, 1) := by decide +kernel
theorem d_X11_text_41 : decode mX11_text.2.2.1 41 = .ok (.getfield 30, 3) := by decide +kernel
theorem d_X11_text_44 : decode mX11_text.2.2.1 44 = .ok (.astore_n 1, 1) := by decide +kernel
theorem d_X11_text_45 : decode mX11_text.2.2.1 45 = .ok (.aload_n 0, 1) := by decide +kernel
theorem d_X11_text_46 : decode mX11_text.2.2.1 46 = .ok (.aload_n 0, 1) := by decide +kernel
theorem d_X11_text_47 : decode mX11_text.2.2.1 47 = .ok (.getfield 34, 3) := by decide +kernel
theorem d_X11_text_50 : decode mX11_text.2.2.1 50 = .ok (.putfield 30, 3) := by decide +kernel
theorem d_X11_text_53 : decode mX11_text.2.2.1 53 = .ok (.aload_n 0, 1) := by decide +kernel
theorem d_X11_text_54 : decode mX11_text.2.2.1 54 = .ok (.aload_n 1, 1) := by decide +kernel
theorem d_X11_text_55 : decode mX11_text.2.2.1 55 = .ok (.putfield 34, 3) := by decide +kernel
theorem d_X11_text_58 : decode mX11_text.2.2.1 58 = .ok (.aload_n 0, 1) := by decide +kernel
theorem d_X11_text_59 : decode mX11_text.2.2.1 59 = .ok (.getfield 30, 3) := by decide +kernel
theorem d_X11_text_62 : decode mX11_text.2.2.1 62 = .ok (.getfield 100, 3) := by decide +kernel
theorem f_11_100 : e_fld 11 100 3 8 12 2 true := ⟨RX3, TX3, 8, rfl, rfl, by decide, rfl, rfl, rfl, iX3, tblG_in (inT1 (List.mem_of_getElem? (i := 196) rfl)) rfl, tyX3_ok, nmX3⟩
theorem d_X11_text_65 : decode mX11_text.2.2.1 65 = .ok (.iconst 0, 1) := by decide +kernel
theorem d_X11_text_66 : decode mX11_text.2.2.1 66 = .ok (.aload_n 0, 1) := by decide +kernel
theorem d_X11_text_67 : decode mX11_text.2.2.1 67 = .ok (.getfield 37, 3) := by decide +kernel
theorem d_X11_text_70 : decode mX11_text.2.2.1 70 = .ok (.iconst 0, 1) := by decide +kernel
theorem d_X11_text_71 : decode mX11_text.2.2.1 71 = .ok (.iconst 3, 1) := by decide +kernel
theorem d_X11_text_72 : decode mX11_text.2.2.1 72 = .ok (.invokestatic 103, 3) := by decide +kernel
theorem acw : Cond.native arraycopyName ∈ tblG ∧ Cond.static arraycopyName ∈ tblG ∧ Cond.initialized "java/lang/System" ∈ tblG := ⟨tblG_in (inT4 (List.mem_of_getElem? (i := 193) rfl)) rfl, tblG_in (inT4 (List.mem_of_getElem? (i := 192) rfl)) rfl, tblG_in (inT1 (List.mem_of_getElem? (i := 21) rfl)) rfl⟩
theorem ac_11_103 : Cond.methodLink (e_cn 11) 103 arraycopyName ∈ tblG := tblG_in (inT4 (List.mem_of_getElem? (i := 191) rfl)) rfl
theorem d_X11_text_75 : decode mX11_text.2.2.1 75 = .ok (.aload_n 0, 1) := by decide +kernel
theorem d_X11_text_76 : decode mX11_text.2.2.1 76 = .ok (.iconst 0, 1) := by decide +kernel
theorem d_X11_text_77 : decode mX11_text.2.2.1 77 = .ok (.putfield 109, 3) := by decide +kernel
theorem f_11_109 : e_fld 11 109 11 9 14 3 false := ⟨RX11, TX11, 9, rfl, rfl, by decide, rfl, rfl, rfl, iX11, tblG_in (inT3 (List.mem_of_getElem? (i := 57) rfl)) rfl, tyX11_ok, nmX11⟩
theorem d_X11_text_80 : decode mX11_text.2.2.1 80 = .ok (.aload_n 0, 1) := by decide +kernel
theorem d_X11_text_81 : decode mX11_text.2.2.1 81 = .ok (.getfield 63, 3) := by decide +kernel
theorem d_X11_text_84 : decode mX11_text.2.2.1 84 = .ok (.invokevirtual 113, 3) := by decide +kernel
def mX10_clear : MD := (10, yX10_clear, cX10_clear, 1, none)
theorem sel_X10_clear : Cond.instanceMethod mX10_clear.2.1 ∈ tblG ∧ Cond.selects mX10_clear.2.1.cls mX10_clear.2.1 mX10_clear.2.1 ∈ tblG := ⟨tblG_in (inT4 (List.mem_of_getElem? (i := 195) rfl)) rfl, tblG_in (inT4 (List.mem_of_getElem? (i := 196) rfl)) rfl⟩
theorem s_11_113 : e_siteV 11 113 mX10_clear 10 := ⟨tblG_in (inT4 (List.mem_of_getElem? (i := 194) rfl)) rfl, sel_X10_clear.1, sel_X10_clear.2, rfl⟩
theorem ok_X10_clear : e_m mX10_clear 0 := ⟨tblG_in (inT4 (List.mem_of_getElem? (i := 197) rfl)) rfl, by decide, rfl, ini_10, by decide +kernel, by decide⟩
theorem d_X10_clear_0 : decode mX10_clear.2.2.1 0 = .ok (.aload_n 0, 1) := by decide +kernel
theorem d_X10_clear_1 : decode mX10_clear.2.2.1 1 = .ok (.iconst 0, 1) := by decide +kernel
theorem d_X10_clear_2 : decode mX10_clear.2.2.1 2 = .ok (.putfield 21, 3) := by decide +kernel
theorem f_10_21 : e_fld 10 21 10 0 7 3 false := ⟨RX10, TX10, 0, rfl, rfl, by decide, rfl, rfl, rfl, iX10, tblG_in (inT2 (List.mem_of_getElem? (i := 189) rfl)) rfl, tyX10_ok, nmX10⟩
theorem d_X10_clear_5 : decode mX10_clear.2.2.1 5 = .ok (.return_, 1) := by decide +kernel
theorem d_X11_text_87 : decode mX11_text.2.2.1 87 = .ok (.aload_n 0, 1) := by decide +kernel
theorem d_X11_text_88 : decode mX11_text.2.2.1 88 = .ok (.getfield 70, 3) := by decide +kernel
theorem d_X11_text_91 : decode mX11_text.2.2.1 91 = .ok (.invokevirtual 114, 3) := by decide +kernel
def mX2_clear : MD := (2, yX2_clear, cX2_clear, 1, none)
theorem sel_X2_clear : Cond.instanceMethod mX2_clear.2.1 ∈ tblG ∧ Cond.selects mX2_clear.2.1.cls mX2_clear.2.1 mX2_clear.2.1 ∈ tblG := ⟨tblG_in (inT4 (List.mem_of_getElem? (i := 199) rfl)) rfl, tblG_in (inT4 (List.mem_of_getElem? (i := 200) rfl)) rfl⟩
theorem s_11_114 : e_siteV 11 114 mX2_clear 2 := ⟨tblG_in (inT4 (List.mem_of_getElem? (i := 198) rfl)) rfl, sel_X2_clear.1, sel_X2_clear.2, rfl⟩
theorem ok_X2_clear : e_m mX2_clear 0 := ⟨tblG_in (inT4 (List.mem_of_getElem? (i := 201) rfl)) rfl, by decide, rfl, ini_2, by decide +kernel, by decide⟩
theorem d_X2_clear_0 : decode mX2_clear.2.2.1 0 = .ok (.aload_n 0, 1) := by decide +kernel
theorem d_X2_clear_1 : decode mX2_clear.2.2.1 1 = .ok (.iconst 0, 1) := by decide +kernel
theorem d_X2_clear_2 : decode mX2_clear.2.2.1 2 = .ok (.putfield 27, 3) := by decide +kernel
theorem f_2_27 : e_fld 2 27 2 0 7 0 false := ⟨RX2, TX2, 0, rfl, rfl, by decide, rfl, rfl, rfl, iX2, tblG_in (inT2 (List.mem_of_getElem? (i := 218) rfl)) rfl, tyX2_ok, nmX2⟩
theorem d_X2_clear_5 : decode mX2_clear.2.2.1 5 = .ok (.aload_n 0, 1) := by decide +kernel
theorem d_X2_clear_6 : decode mX2_clear.2.2.1 6 = .ok (.iconst 0, 1) := by decide +kernel
theorem d_X2_clear_7 : decode mX2_clear.2.2.1 7 = .ok (.putfield 31, 3) := by decide +kernel
theorem f_2_31 : e_fld 2 31 2 1 7 3 false := ⟨RX2, TX2, 1, rfl, rfl, by decide, rfl, rfl, rfl, iX2, tblG_in (inT2 (List.mem_of_getElem? (i := 220) rfl)) rfl, tyX2_ok, nmX2⟩
theorem d_X2_clear_10 : decode mX2_clear.2.2.1 10 = .ok (.return_, 1) := by decide +kernel
theorem d_X11_text_94 : decode mX11_text.2.2.1 94 = .ok (.aload_n 0, 1) := by decide +kernel
theorem d_X11_text_95 : decode mX11_text.2.2.1 95 = .ok (.getfield 30, 3) := by decide +kernel
theorem d_X11_text_98 : decode mX11_text.2.2.1 98 = .ok (.getfield 115, 3) := by decide +kernel
theorem f_11_115 : e_fld 11 115 3 11 12 2 true := ⟨RX3, TX3, 11, rfl, rfl, by decide, rfl, rfl, rfl, iX3, tblG_in (inT1 (List.mem_of_getElem? (i := 206) rfl)) rfl, tyX3_ok, nmX3⟩
theorem d_X11_text_101 : decode mX11_text.2.2.1 101 = .ok (.getfield 119, 3) := by decide +kernel
theorem f_11_119 : e_fld 11 119 4 0 13 0 false := ⟨RX4, TX4, 0, rfl, rfl, by decide, rfl, rfl, rfl, iX4, tblG_in (inT1 (List.mem_of_getElem? (i := 106) rfl)) rfl, tyX4_ok, nmX4⟩
theorem d_X11_text_104 : decode mX11_text.2.2.1 104 = .ok (.ireturn, 1) := by decide +kernel
def mX12_text : MD := (12, yX12_text, cX12_text, 3, some .int)
theorem sel_X12_text : Cond.instanceMethod mX12_text.2.1 ∈ tblG ∧ Cond.selects mX12_text.2.1.cls mX12_text.2.1 mX12_text.2.1 ∈ tblG := ⟨tblG_in (inT8 (List.mem_of_getElem? (i := 89) rfl)) rfl, tblG_in (inT8 (List.mem_of_getElem? (i := 90) rfl)) rfl⟩
theorem s_13_27 : e_siteV 13 27 mX12_text 12 := ⟨tblG_in (inT8 (List.mem_of_getElem? (i := 88) rfl)) rfl, sel_X12_text.1, sel_X12_text.2, rfl⟩
theorem ok_X12_text : e_m mX12_text 0 := ⟨tblG_in (inT8 (List.mem_of_getElem? (i := 91) rfl)) rfl, by decide, rfl, ini_12, by decide +kernel, by decide⟩
theorem d_X12_text_0 : decode mX12_text.2.2.1 0 = .ok (.aload_n 0, 1) := by decide +kernel
theorem d_X12_text_1 : decode mX12_text.2.2.1 1 = .ok (.aload_n 0, 1) := by decide +kernel
theorem d_X12_text_2 : decode mX12_text.2.2.1 2 = .ok (.getfield 13, 3) := by decide +kernel
theorem d_X12_text_5 : decode mX12_text.2.2.1 5 = .ok (.putfield 17, 3) := by decide +kernel
theorem d_X12_text_8 : decode mX12_text.2.2.1 8 = .ok (.aload_n 0, 1) := by decide +kernel
theorem d_X12_text_9 : decode mX12_text.2.2.1 9 = .ok (.iconst 0, 1) := by decide +kernel
theorem d_X12_text_10 : decode mX12_text.2.2.1 10 = .ok (.putfield 13, 3) := by decide +kernel
theorem d_X12_text_13 : decode mX12_text.2.2.1 13 = .ok (.aload_n 0, 1) := by decide +kernel
theorem d_X12_text_14 : decode mX12_text.2.2.1 14 = .ok (.iconst 0, 1) := by decide +kernel
theorem d_X12_text_15 : decode mX12_text.2.2.1 15 = .ok (.putfield 26, 3) := by decide +kernel
theorem d_X12_text_18 : decode mX12_text.2.2.1 18 = .ok (.aload_n 0, 1) := by decide +kernel
theorem d_X12_text_19 : decode mX12_text.2.2.1 19 = .ok (.iconst 0, 1) := by decide +kernel
theorem d_X12_text_20 : decode mX12_text.2.2.1 20 = .ok (.putfield 36, 3) := by decide +kernel
theorem d_X12_text_23 : decode mX12_text.2.2.1 23 = .ok (.aload_n 0, 1) := by decide +kernel
theorem d_X12_text_24 : decode mX12_text.2.2.1 24 = .ok (.iconst (-1), 1) := by decide +kernel
theorem d_X12_text_25 : decode mX12_text.2.2.1 25 = .ok (.putfield 39, 3) := by decide +kernel
theorem d_X12_text_28 : decode mX12_text.2.2.1 28 = .ok (.aload_n 0, 1) := by decide +kernel
theorem d_X12_text_29 : decode mX12_text.2.2.1 29 = .ok (.iconst 1, 1) := by decide +kernel
theorem d_X12_text_30 : decode mX12_text.2.2.1 30 = .ok (.aload_n 0, 1) := by decide +kernel
theorem d_X12_text_31 : decode mX12_text.2.2.1 31 = .ok (.getfield 48, 3) := by decide +kernel
theorem d_X12_text_34 : decode mX12_text.2.2.1 34 = .ok (.isub, 1) := by decide +kernel
theorem d_X12_text_35 : decode mX12_text.2.2.1 35 = .ok (.putfield 124, 3) := by decide +kernel
theorem d_X12_text_38 : decode mX12_text.2.2.1 38 = .ok (.aload_n 0, 1) := by decide +kernel
theorem d_X12_text_39 : decode mX12_text.2.2.1 39 = .ok (.getfield 51, 3) := by decide +kernel
theorem d_X12_text_42 : decode mX12_text.2.2.1 42 = .ok (.aload_n 0, 1) := by decide +kernel
theorem d_X12_text_43 : decode mX12_text.2.2.1 43 = .ok (.getfield 124, 3) := by decide +kernel
theorem d_X12_text_46 : decode mX12_text.2.2.1 46 = .ok (.iconst 1, 1) := by decide +kernel
theorem d_X12_text_47 : decode mX12_text.2.2.1 47 = .ok (.iastore, 1) := by decide +kernel
theorem d_X12_text_48 : decode mX12_text.2.2.1 48 = .ok (.aload_n 0, 1) := by decide +kernel
theorem d_X12_text_49 : decode mX12_text.2.2.1 49 = .ok (.getfield 54, 3) := by decide +kernel
theorem d_X12_text_52 : decode mX12_text.2.2.1 52 = .ok (.aload_n 0, 1) := by decide +kernel
theorem d_X12_text_53 : decode mX12_text.2.2.1 53 = .ok (.getfield 124, 3) := by decide +kernel
theorem d_X12_text_56 : decode mX12_text.2.2.1 56 = .ok (.iconst 1, 1) := by decide +kernel
theorem d_X12_text_57 : decode mX12_text.2.2.1 57 = .ok (.iastore, 1) := by decide +kernel
theorem d_X12_text_58 : decode mX12_text.2.2.1 58 = .ok (.aload_n 0, 1) := by decide +kernel
theorem d_X12_text_59 : decode mX12_text.2.2.1 59 = .ok (.getfield 57, 3) := by decide +kernel
theorem d_X12_text_62 : decode mX12_text.2.2.1 62 = .ok (.aload_n 0, 1) := by decide +kernel
theorem d_X12_text_63 : decode mX12_text.2.2.1 63 = .ok (.getfield 124, 3) := by decide +kernel
theorem d_X12_text_66 : decode mX12_text.2.2.1 66 = .ok (.iconst 1, 1) := by decide +kernel
theorem d_X12_text_67 : decode mX12_text.2.2.1 67 = .ok (.iastore, 1) := by decide +kernel
theorem d_X12_text_68 : decode mX12_text.2.2.1 68 = .ok (.aload_n 0, 1) := by decide +kernel
theorem d_X12_text_69 : decode mX12_text.2.2.1 69 = .ok (.getfield 60, 3) := by decide +kernel
theorem d_X12_text_72 : decode mX12_text.2.2.1 72 = .ok (.aload_n 0, 1) := by decide +kernel
theorem d_X12_text_73 : decode mX12_text.2.2.1 73 = .ok (.getfield 124, 3) := by decide +kernel
theorem d_X12_text_76 : decode mX12_text.2.2.1 76 = .ok (.iconst 0, 1) := by decide +kernel
theorem d_X12_text_77 : decode mX12_text.2.2.1 77 = .ok (.iastore, 1) := by decide +kernel
theorem d_X12_text_78 : decode mX12_text.2.2.1 78 = .ok (.aload_n 0, 1) := by decide +kernel
theorem d_X12_text_79 : decode mX12_text.2.2.1 79 = .ok (.getfield 63, 3) := by decide +kernel
theorem d_X12_text_82 : decode mX12_text.2.2.1 82 = .ok (.aload_n 0, 1) := by decide +kernel
theorem d_X12_text_83 : decode mX12_text.2.2.1 83 = .ok (.getfield 124, 3) := by decide +kernel
theorem d_X12_text_86 : decode mX12_text.2.2.1 86 = .ok (.iconst 0, 1) := by decide +kernel
theorem d_X12_text_87 : decode mX12_text.2.2.1 87 = .ok (.iastore, 1) := by decide +kernel
theorem d_X12_text_88 : decode mX12_text.2.2.1 88 = .ok (.aload_n 0, 1) := by decide +kernel
theorem d_X12_text_89 : decode mX12_text.2.2.1 89 = .ok (.getfield 66, 3) := by decide +kernel
theorem d_X12_text_92 : decode mX12_text.2.2.1 92 = .ok (.aload_n 0, 1) := by decide +kernel
theorem d_X12_text_93 : decode mX12_text.2.2.1 93 = .ok (.getfield 124, 3) := by decide +kernel
theorem d_X12_text_96 : decode mX12_text.2.2.1 96 = .ok (.iconst 0, 1) := by decide +kernel
theorem d_X12_text_97 : decode mX12_text.2.2.1 97 = .ok (.iastore, 1) := by decide +kernel
theorem d_X12_text_98 : decode mX12_text.2.2.1 98 = .ok (.aload_n 0, 1) := by decide +kernel
theorem d_X12_text_99 : decode mX12_text.2.2.1 99 = .ok (.getfield 69, 3) := by decide +kernel
theorem d_X12_text_102 : decode mX12_text.2.2.1 102 = .ok (.aload_n 0, 1) := by decide +kernel
theorem d_X12_text_103 : decode mX12_text.2.2.1 103 = .ok (.getfield 124, 3) := by decide +kernel
theorem d_X12_text_106 : decode mX12_text.2.2.1 106 = .ok (.iconst 0, 1) := by decide +kernel
theorem d_X12_text_107 : decode mX12_text.2.2.1 107 = .ok (.iastore, 1) := by decide +kernel
theorem d_X12_text_108 : decode mX12_text.2.2.1 108 = .ok (.aload_n 0, 1) := by decide +kernel
theorem d_X12_text_109 : decode mX12_text.2.2.1 109 = .ok (.getfield 72, 3) := by decide +kernel
theorem d_X12_text_112 : decode mX12_text.2.2.1 112 = .ok (.aload_n 0, 1) := by decide +kernel
theorem d_X12_text_113 : decode mX12_text.2.2.1 113 = .ok (.getfield 124, 3) := by decide +kernel
theorem d_X12_text_116 : decode mX12_text.2.2.1 116 = .ok (.iconst 0, 1) := by decide +kernel
theorem d_X12_text_117 : decode mX12_text.2.2.1 117 = .ok (.iastore, 1) := by decide +kernel
theorem d_X12_text_118 : decode mX12_text.2.2.1 118 = .ok (.aload_n 0, 1) := by decide +kernel
theorem d_X12_text_119 : decode mX12_text.2.2.1 119 = .ok (.getfield 94, 3) := by decide +kernel
theorem d_X12_text_122 : decode mX12_text.2.2.1 122 = .ok (.aload_n 0, 1) := by decide +kernel
theorem d_X12_text_123 : decode mX12_text.2.2.1 123 = .ok (.getfield 124, 3) := by decide +kernel
theorem d_X12_text_126 : decode mX12_text.2.2.1 126 = .ok (.iconst 0, 1) := by decide +kernel
theorem d_X12_text_127 : decode mX12_text.2.2.1 127 = .ok (.iastore, 1) := by decide +kernel
theorem d_X12_text_128 : decode mX12_text.2.2.1 128 = .ok (.aload_n 0, 1) := by decide +kernel
theorem d_X12_text_129 : decode mX12_text.2.2.1 129 = .ok (.iconst 0, 1) := by decide +kernel
theorem d_X12_text_130 : decode mX12_text.2.2.1 130 = .ok (.putfield 121, 3) := by decide +kernel
theorem d_X12_text_133 : decode mX12_text.2.2.1 133 = .ok (.aload_n 0, 1) := by decide +kernel
theorem d_X12_text_134 : decode mX12_text.2.2.1 134 = .ok (.iconst 0, 1) := by decide +kernel
theorem d_X12_text_135 : decode mX12_text.2.2.1 135 = .ok (.putfield 146, 3) := by decide +kernel
theorem d_X12_text_138 : decode mX12_text.2.2.1 138 = .ok (.aload_n 0, 1) := by decide +kernel
theorem d_X12_text_139 : decode mX12_text.2.2.1 139 = .ok (.iconst 0, 1) := by decide +kernel
theorem d_X12_text_140 : decode mX12_text.2.2.1 140 = .ok (.putfield 165, 3) := by decide +kernel
theorem d_X12_text_143 : decode mX12_text.2.2.1 143 = .ok (.aload_n 0, 1) := by decide +kernel
theorem d_X12_text_144 : decode mX12_text.2.2.1 144 = .ok (.invokevirtual 396, 3) := by decide +kernel
def mX12_next : MD := (12, yX12_next, cX12_next, 6, none)
theorem sel_X12_next : Cond.instanceMethod mX12_next.2.1 ∈ tblG ∧ Cond.selects mX12_next.2.1.cls mX12_next.2.1 mX12_next.2.1 ∈ tblG := ⟨tblG_in (inT8 (List.mem_of_getElem? (i := 94) rfl)) rfl, tblG_in (inP5 (q := (mX12_next.2.1, 121)) (List.mem_of_getElem? (i := 9) rfl)) rfl⟩
theorem s_12_396 : e_siteV 12 396 mX12_next 12 := ⟨tblG_in (inT8 (List.mem_of_getElem? (i := 92) rfl)) rfl, sel_X12_next.1, sel_X12_next.2, rfl⟩
theorem ok_X12_next : e_m mX12_next 0 := ⟨tblG_in (inT8 (List.mem_of_getElem? (i := 95) rfl)) rfl, by decide, rfl, ini_12, by decide +kernel, by decide⟩
theorem d_X12_next_0 : decode mX12_next.2.2.1 0 = .ok (.aload_n 0, 1) := by decide +kernel
theorem d_X12_next_1 : decode mX12_next.2.2.1 1 = .ok (.getfield 26, 3) := by decide +kernel
theorem d_X12_next_4 : decode mX12_next.2.2.1 4 = .ok (.istore_n 1, 1) := by decide +kernel
theorem d_X12_next_5 : decode mX12_next.2.2.1 5 = .ok (.iload_n 1, 1) := by decide +kernel
theorem d_X12_next_6 : decode mX12_next.2.2.1 6 = .ok (.aload_n 0, 1) := by decide +kernel
theorem d_X12_next_7 : decode mX12_next.2.2.1 7 = .ok (.getfield 17, 3) := by decide +kernel
theorem d_X12_next_10 : decode mX12_next.2.2.1 10 = .ok (.if_icmp .ge 31, 3) := by decide +kernel
theorem d_X12_next_41 : decode mX12_next.2.2.1 41 = .ok (.aload_n 0, 1) := by decide +kernel
theorem d_X12_next_42 : decode mX12_next.2.2.1 42 = .ok (.iload_n 1, 1) := by decide +kernel
theorem d_X12_next_43 : decode mX12_next.2.2.1 43 = .ok (.putfield 23, 3) := by decide +kernel
theorem d_X12_next_46 : decode mX12_next.2.2.1 46 = .ok (.aload_n 0, 1) := by decide +kernel
theorem d_X12_next_47 : decode mX12_next.2.2.1 47 = .ok (.iload_n 1, 1) := by decide +kernel
theorem d_X12_next_48 : decode mX12_next.2.2.1 48 = .ok (.putfield 26, 3) := by decide +kernel
theorem d_X12_next_51 : decode mX12_next.2.2.1 51 = .ok (.aload_n 0, 1) := by decide +kernel
theorem d_X12_next_52 : decode mX12_next.2.2.1 52 = .ok (.iconst 0, 1) := by decide +kernel
theorem d_X12_next_53 : decode mX12_next.2.2.1 53 = .ok (.putfield 20, 3) := by decide +kernel
theorem d_X12_next_56 : decode mX12_next.2.2.1 56 = .ok (.iload_n 1, 1) := by decide +kernel
theorem d_X12_next_57 : decode mX12_next.2.2.1 57 = .ok (.aload_n 0, 1) := by decide +kernel
theorem d_X12_next_58 : decode mX12_next.2.2.1 58 = .ok (.getfield 17, 3) := by decide +kernel
theorem d_X12_next_61 : decode mX12_next.2.2.1 61 = .ok (.if_icmp .lt 4, 3) := by decide +kernel
theorem d_X12_next_64 : decode mX12_next.2.2.1 64 = .ok (.return_, 1) := by decide +kernel
theorem d_X12_text_147 : decode mX12_text.2.2.1 147 = .ok (.iconst 1, 1) := by decide +kernel
theorem d_X12_text_148 : decode mX12_text.2.2.1 148 = .ok (.istore_n 1, 1) := by decide +kernel
theorem d_X12_text_149 : decode mX12_text.2.2.1 149 = .ok (.aload_n 0, 1) := by decide +kernel
theorem d_X12_text_150 : decode mX12_text.2.2.1 150 = .ok (.getfield 36, 3) := by decide +kernel
theorem d_X12_text_153 : decode mX12_text.2.2.1 153 = .ok (.ifCond .ne 30, 3) := by decide +kernel
theorem d_X12_text_156 : decode mX12_text.2.2.1 156 = .ok (.iload_n 1, 1) := by decide +kernel
theorem d_X12_text_157 : decode mX12_text.2.2.1 157 = .ok (.ifCond .eq 26, 3) := by decide +kernel
theorem d_X12_text_160 : decode mX12_text.2.2.1 160 = .ok (.aload_n 0, 1) := by decide +kernel
theorem d_X12_text_161 : decode mX12_text.2.2.1 161 = .ok (.getfield 20, 3) := by decide +kernel
theorem d_X12_text_164 : decode mX12_text.2.2.1 164 = .ok (.ifCond .eq 14, 3) := by decide +kernel
theorem d_X12_text_178 : decode mX12_text.2.2.1 178 = .ok (.iconst 0, 1) := by decide +kernel
theorem d_X12_text_179 : decode mX12_text.2.2.1 179 = .ok (.istore_n 1, 1) := by decide +kernel
theorem d_X12_text_180 : decode mX12_text.2.2.1 180 = .ok (.goto (-31), 3) := by decide +kernel
theorem d_X12_text_183 : decode mX12_text.2.2.1 183 = .ok (.aload_n 0, 1) := by decide +kernel
theorem d_X12_text_184 : decode mX12_text.2.2.1 184 = .ok (.getfield 36, 3) := by decide +kernel
theorem d_X12_text_187 : decode mX12_text.2.2.1 187 = .ok (.ifCond .ne 47, 3) := by decide +kernel
theorem d_X12_text_190 : decode mX12_text.2.2.1 190 = .ok (.aload_n 0, 1) := by decide +kernel
theorem d_X12_text_191 : decode mX12_text.2.2.1 191 = .ok (.getfield 20, 3) := by decide +kernel
theorem d_X12_text_194 : decode mX12_text.2.2.1 194 = .ok (.ifCond .ne 10, 3) := by decide +kernel
theorem d_X12_text_197 : decode mX12_text.2.2.1 197 = .ok (.aload_n 0, 1) := by decide +kernel
theorem d_X12_text_198 : decode mX12_text.2.2.1 198 = .ok (.getfield 165, 3) := by decide +kernel
theorem d_X12_text_201 : decode mX12_text.2.2.1 201 = .ok (.ifCond .le 33, 3) := by decide +kernel
theorem d_X12_text_234 : decode mX12_text.2.2.1 234 = .ok (.aload_n 0, 1) := by decide +kernel
theorem d_X12_text_235 : decode mX12_text.2.2.1 235 = .ok (.aload_n 0, 1) := by decide +kernel
theorem d_X12_text_236 : decode mX12_text.2.2.1 236 = .ok (.getfield 36, 3) := by decide +kernel
theorem d_X12_text_239 : decode mX12_text.2.2.1 239 = .ok (.putfield 42, 3) := by decide +kernel
theorem d_X12_text_242 : decode mX12_text.2.2.1 242 = .ok (.aload_n 0, 1) := by decide +kernel
theorem d_X12_text_243 : decode mX12_text.2.2.1 243 = .ok (.aload_n 0, 1) := by decide +kernel
theorem d_X12_text_244 : decode mX12_text.2.2.1 244 = .ok (.getfield 39, 3) := by decide +kernel
theorem d_X12_text_247 : decode mX12_text.2.2.1 247 = .ok (.putfield 45, 3) := by decide +kernel
theorem d_X12_text_250 : decode mX12_text.2.2.1 250 = .ok (.aload_n 0, 1) := by decide +kernel
theorem d_X12_text_251 : decode mX12_text.2.2.1 251 = .ok (.getfield 36, 3) := by decide +kernel
theorem d_X12_text_254 : decode mX12_text.2.2.1 254 = .ok (.ifCond .le 5, 3) := by decide +kernel
theorem d_X12_text_259 : decode mX12_text.2.2.1 259 = .ok (.aload_n 0, 1) := by decide +kernel
theorem d_X12_text_260 : decode mX12_text.2.2.1 260 = .ok (.aload_n 0, 1) := by decide +kernel
theorem d_X12_text_261 : decode mX12_text.2.2.1 261 = .ok (.getfield 124, 3) := by decide +kernel
theorem d_X12_text_264 : decode mX12_text.2.2.1 264 = .ok (.putfield 48, 3) := by decide +kernel
theorem d_X12_text_267 : decode mX12_text.2.2.1 267 = .ok (.iconst 0, 1) := by decide +kernel
theorem d_X12_text_268 : decode mX12_text.2.2.1 268 = .ok (.istore_n 2, 1) := by decide +kernel
theorem d_X12_text_269 : decode mX12_text.2.2.1 269 = .ok (.iload_n 2, 1) := by decide +kernel
theorem d_X12_text_270 : decode mX12_text.2.2.1 270 = .ok (.iconst 3, 1) := by decide +kernel
theorem d_X12_text_271 : decode mX12_text.2.2.1 271 = .ok (.if_icmp .ge 45, 3) := by decide +kernel
theorem d_X12_text_274 : decode mX12_text.2.2.1 274 = .ok (.aload_n 0, 1) := by decide +kernel
theorem d_X12_text_275 : decode mX12_text.2.2.1 275 = .ok (.getfield 168, 3) := by decide +kernel
theorem d_X12_text_278 : decode mX12_text.2.2.1 278 = .ok (.iload_n 2, 1) := by decide +kernel
theorem d_X12_text_279 : decode mX12_text.2.2.1 279 = .ok (.iload_n 2, 1) := by decide +kernel
theorem d_X12_text_280 : decode mX12_text.2.2.1 280 = .ok (.aload_n 0, 1) := by decide +kernel
theorem d_X12_text_281 : decode mX12_text.2.2.1 281 = .ok (.getfield 66, 3) := by decide +kernel
theorem d_X12_text_284 : decode mX12_text.2.2.1 284 = .ok (.aload_n 0, 1) := by decide +kernel
theorem d_X12_text_285 : decode mX12_text.2.2.1 285 = .ok (.getfield 48, 3) := by decide +kernel
theorem d_X12_text_288 : decode mX12_text.2.2.1 288 = .ok (.iaload, 1) := by decide +kernel
theorem d_X12_text_289 : decode mX12_text.2.2.1 289 = .ok (.if_icmp .ge 19, 3) := by decide +kernel
theorem d_X12_text_308 : decode mX12_text.2.2.1 308 = .ok (.iconst 0, 1) := by decide +kernel
theorem d_X12_text_309 : decode mX12_text.2.2.1 309 = .ok (.iastore, 1) := by decide +kernel
theorem d_X12_text_310 : decode mX12_text.2.2.1 310 = .ok (.iinc 2 1, 3) := by decide +kernel
theorem d_X12_text_313 : decode mX12_text.2.2.1 313 = .ok (.goto (-44), 3) := by decide +kernel
theorem d_X12_text_316 : decode mX12_text.2.2.1 316 = .ok (.aload_n 0, 1) := by decide +kernel
theorem d_X12_text_317 : decode mX12_text.2.2.1 317 = .ok (.iconst 0, 1) := by decide +kernel
theorem d_X12_text_318 : decode mX12_text.2.2.1 318 = .ok (.putfield 270, 3) := by decide +kernel
theorem d_X12_text_321 : decode mX12_text.2.2.1 321 = .ok (.aload_n 0, 1) := by decide +kernel
theorem d_X12_text_322 : decode mX12_text.2.2.1 322 = .ok (.iconst 0, 1) := by decide +kernel
theorem d_X12_text_323 : decode mX12_text.2.2.1 323 = .ok (.putfield 327, 3) := by decide +kernel
theorem d_X12_text_326 : decode mX12_text.2.2.1 326 = .ok (.aload_n 0, 1) := by decide +kernel
theorem d_X12_text_327 : decode mX12_text.2.2.1 327 = .ok (.iconst 0, 1) := by decide +kernel
theorem d_X12_text_328 : decode mX12_text.2.2.1 328 = .ok (.putfield 333, 3) := by decide +kernel
theorem d_X12_text_331 : decode mX12_text.2.2.1 331 = .ok (.aload_n 0, 1) := by decide +kernel
theorem d_X12_text_332 : decode mX12_text.2.2.1 332 = .ok (.iconst 0, 1) := by decide +kernel
theorem d_X12_text_333 : decode mX12_text.2.2.1 333 = .ok (.putfield 342, 3) := by decide +kernel
theorem d_X12_text_336 : decode mX12_text.2.2.1 336 = .ok (.aload_n 0, 1) := by decide +kernel
theorem d_X12_text_337 : decode mX12_text.2.2.1 337 = .ok (.getfield 72, 3) := by decide +kernel
theorem d_X12_text_340 : decode mX12_text.2.2.1 340 = .ok (.aload_n 0, 1) := by decide +kernel
theorem d_X12_text_341 : decode mX12_text.2.2.1 341 = .ok (.getfield 48, 3) := by decide +kernel
theorem d_X12_text_344 : decode mX12_text.2.2.1 344 = .ok (.iaload, 1) := by decide +kernel
theorem d_X12_text_345 : decode mX12_text.2.2.1 345 = .ok (.ireturn, 1) := by decide +kernel
def mX11_fault : MD := (11, yX11_fault, cX11_fault, 2, some .int)
theorem sel_X11_fault : Cond.instanceMethod mX11_fault.2.1 ∈ tblG ∧ Cond.selects mX11_fault.2.1.cls mX11_fault.2.1 mX11_fault.2.1 ∈ tblG := ⟨tblG_in (inT4 (List.mem_of_getElem? (i := 203) rfl)) rfl, tblG_in (inT4 (List.mem_of_getElem? (i := 204) rfl)) rfl⟩
theorem s_13_28 : e_siteV 13 28 mX11_fault 11 := ⟨tblG_in (inT4 (List.mem_of_getElem? (i := 202) rfl)) rfl, sel_X11_fault.1, sel_X11_fault.2, rfl⟩
theorem ok_X11_fault : e_m mX11_fault 1 := ⟨tblG_in (inT4 (List.mem_of_getElem? (i := 205) rfl)) rfl, by decide, rfl, ini_11, by decide +kernel, by decide⟩
theorem d_X11_fault_0 : decode mX11_fault.2.2.1 0 = .ok (.iload_n 1, 1) := by decide +kernel
theorem d_X11_fault_1 : decode mX11_fault.2.2.1 1 = .ok (.ifCond .ne 11, 3) := by decide +kernel
theorem d_X11_fault_12 : decode mX11_fault.2.2.1 12 = .ok (.iload_n 1, 1) := by decide +kernel
theorem d_X11_fault_13 : decode mX11_fault.2.2.1 13 = .ok (.iconst 1, 1) := by decide +kernel
theorem d_X11_fault_14 : decode mX11_fault.2.2.1 14 = .ok (.if_icmp .ne 13, 3) := by decide +kernel
theorem d_X11_fault_27 : decode mX11_fault.2.2.1 27 = .ok (.iconst (-1), 1) := by decide +kernel
theorem d_X11_fault_28 : decode mX11_fault.2.2.1 28 = .ok (.ireturn, 1) := by decide +kernel
def mX12_fault : MD := (12, yX12_fault, cX12_fault, 2, some .int)
theorem sel_X12_fault : Cond.instanceMethod mX12_fault.2.1 ∈ tblG ∧ Cond.selects mX12_fault.2.1.cls mX12_fault.2.1 mX12_fault.2.1 ∈ tblG := ⟨tblG_in (inT9 (List.mem_of_getElem? (i := 19) rfl)) rfl, tblG_in (inT9 (List.mem_of_getElem? (i := 20) rfl)) rfl⟩
theorem s_13_32 : e_siteV 13 32 mX12_fault 12 := ⟨tblG_in (inT9 (List.mem_of_getElem? (i := 18) rfl)) rfl, sel_X12_fault.1, sel_X12_fault.2, rfl⟩
theorem ok_X12_fault : e_m mX12_fault 1 := ⟨tblG_in (inT9 (List.mem_of_getElem? (i := 21) rfl)) rfl, by decide, rfl, ini_12, by decide +kernel, by decide⟩
theorem d_X12_fault_0 : decode mX12_fault.2.2.1 0 = .ok (.iload_n 1, 1) := by decide +kernel
theorem d_X12_fault_1 : decode mX12_fault.2.2.1 1 = .ok (.ifCond .ne 10, 3) := by decide +kernel
theorem d_X12_fault_11 : decode mX12_fault.2.2.1 11 = .ok (.iload_n 1, 1) := by decide +kernel
theorem d_X12_fault_12 : decode mX12_fault.2.2.1 12 = .ok (.iconst 1, 1) := by decide +kernel
theorem d_X12_fault_13 : decode mX12_fault.2.2.1 13 = .ok (.if_icmp .ne 10, 3) := by decide +kernel
theorem d_X12_fault_23 : decode mX12_fault.2.2.1 23 = .ok (.iconst (-1), 1) := by decide +kernel
theorem d_X12_fault_24 : decode mX12_fault.2.2.1 24 = .ok (.ireturn, 1) := by decide +kernel
theorem d_X11_fault_17 : decode mX11_fault.2.2.1 17 = .ok (.aload_n 0, 1) := by decide +kernel
theorem d_X11_fault_18 : decode mX11_fault.2.2.1 18 = .ok (.getfield 23, 3) := by decide +kernel
theorem d_X11_fault_21 : decode mX11_fault.2.2.1 21 = .ok (.getfield 127, 3) := by decide +kernel
theorem f_11_127 : e_fld 11 127 5 1 7 0 false := ⟨RX5, TX5, 1, rfl, rfl, by decide, rfl, rfl, rfl, iX5, tblG_in (inT1 (List.mem_of_getElem? (i := 71) rfl)) rfl, tyX5_ok, nmX5⟩
theorem d_X11_fault_24 : decode mX11_fault.2.2.1 24 = .ok (.goto 4, 3) := by decide +kernel
theorem d_X12_fault_16 : decode mX12_fault.2.2.1 16 = .ok (.aload_n 0, 1) := by decide +kernel
theorem d_X12_fault_17 : decode mX12_fault.2.2.1 17 = .ok (.getfield 45, 3) := by decide +kernel
theorem d_X12_fault_20 : decode mX12_fault.2.2.1 20 = .ok (.goto 4, 3) := by decide +kernel
theorem d_X11_fault_4 : decode mX11_fault.2.2.1 4 = .ok (.aload_n 0, 1) := by decide +kernel
theorem d_X11_fault_5 : decode mX11_fault.2.2.1 5 = .ok (.getfield 23, 3) := by decide +kernel
theorem d_X11_fault_8 : decode mX11_fault.2.2.1 8 = .ok (.getfield 124, 3) := by decide +kernel
theorem f_11_124 : e_fld 11 124 5 0 7 0 false := ⟨RX5, TX5, 0, rfl, rfl, by decide, rfl, rfl, rfl, iX5, tblG_in (inT1 (List.mem_of_getElem? (i := 69) rfl)) rfl, tyX5_ok, nmX5⟩
theorem d_X11_fault_11 : decode mX11_fault.2.2.1 11 = .ok (.ireturn, 1) := by decide +kernel
theorem d_X12_fault_4 : decode mX12_fault.2.2.1 4 = .ok (.aload_n 0, 1) := by decide +kernel
theorem d_X12_fault_5 : decode mX12_fault.2.2.1 5 = .ok (.getfield 42, 3) := by decide +kernel
theorem d_X12_fault_8 : decode mX12_fault.2.2.1 8 = .ok (.goto 16, 3) := by decide +kernel
def mX11_has : MD := (11, yX11_has, cX11_has, 2, some .int)
theorem sel_X11_has : Cond.instanceMethod mX11_has.2.1 ∈ tblG ∧ Cond.selects mX11_has.2.1.cls mX11_has.2.1 mX11_has.2.1 ∈ tblG := ⟨tblG_in (inT4 (List.mem_of_getElem? (i := 207) rfl)) rfl, tblG_in (inT4 (List.mem_of_getElem? (i := 208) rfl)) rfl⟩
theorem s_13_33 : e_siteV 13 33 mX11_has 11 := ⟨tblG_in (inT4 (List.mem_of_getElem? (i := 206) rfl)) rfl, sel_X11_has.1, sel_X11_has.2, rfl⟩
theorem ok_X11_has : e_m mX11_has 1 := ⟨tblG_in (inT4 (List.mem_of_getElem? (i := 209) rfl)) rfl, by decide, rfl, ini_11, by decide +kernel, by decide⟩
theorem d_X11_has_0 : decode mX11_has.2.2.1 0 = .ok (.iload_n 1, 1) := by decide +kernel
theorem d_X11_has_1 : decode mX11_has.2.2.1 1 = .ok (.tableswitch 76 0 5 #[39, 39, 39, 49, 60, 68], 39) := by decide +kernel
theorem d_X11_has_77 : decode mX11_has.2.2.1 77 = .ok (.iconst (-1), 1) := by decide +kernel
theorem d_X11_has_78 : decode mX11_has.2.2.1 78 = .ok (.ireturn, 1) := by decide +kernel
def mX12_has : MD := (12, yX12_has, cX12_has, 2, some .int)
theorem sel_X12_has : Cond.instanceMethod mX12_has.2.1 ∈ tblG ∧ Cond.selects mX12_has.2.1.cls mX12_has.2.1 mX12_has.2.1 ∈ tblG := ⟨tblG_in (inT9 (List.mem_of_getElem? (i := 23) rfl)) rfl, tblG_in (inT9 (List.mem_of_getElem? (i := 24) rfl)) rfl⟩
theorem s_13_36 : e_siteV 13 36 mX12_has 12 := ⟨tblG_in (inT9 (List.mem_of_getElem? (i := 22) rfl)) rfl, sel_X12_has.1, sel_X12_has.2, rfl⟩
theorem ok_X12_has : e_m mX12_has 1 := ⟨tblG_in (inT9 (List.mem_of_getElem? (i := 25) rfl)) rfl, by decide, rfl, ini_12, by decide +kernel, by decide⟩
theorem d_X12_has_0 : decode mX12_has.2.2.1 0 = .ok (.iload_n 1, 1) := by decide +kernel
theorem d_X12_has_1 : decode mX12_has.2.2.1 1 = .ok (.tableswitch 89 0 5 #[39, 49, 59, 69, 79, 84], 39) := by decide +kernel
theorem d_X12_has_90 : decode mX12_has.2.2.1 90 = .ok (.iconst (-1), 1) := by decide +kernel
theorem d_X12_has_91 : decode mX12_has.2.2.1 91 = .ok (.ireturn, 1) := by decide +kernel
theorem d_X11_has_40 : decode mX11_has.2.2.1 40 = .ok (.aload_n 0, 1) := by decide +kernel
theorem d_X11_has_41 : decode mX11_has.2.2.1 41 = .ok (.getfield 30, 3) := by decide +kernel
theorem d_X11_has_44 : decode mX11_has.2.2.1 44 = .ok (.getfield 130, 3) := by decide +kernel
theorem f_11_130 : e_fld 11 130 3 4 12 2 true := ⟨RX3, TX3, 4, rfl, rfl, by decide, rfl, rfl, rfl, iX3, tblG_in (inT1 (List.mem_of_getElem? (i := 175) rfl)) rfl, tyX3_ok, nmX3⟩
theorem d_X11_has_47 : decode mX11_has.2.2.1 47 = .ok (.iload_n 1, 1) := by decide +kernel
theorem d_X11_has_48 : decode mX11_has.2.2.1 48 = .ok (.iaload, 1) := by decide +kernel
theorem d_X11_has_49 : decode mX11_has.2.2.1 49 = .ok (.ireturn, 1) := by decide +kernel
theorem d_X12_has_40 : decode mX12_has.2.2.1 40 = .ok (.aload_n 0, 1) := by decide +kernel
theorem d_X12_has_41 : decode mX12_has.2.2.1 41 = .ok (.getfield 63, 3) := by decide +kernel
theorem d_X12_has_44 : decode mX12_has.2.2.1 44 = .ok (.aload_n 0, 1) := by decide +kernel
theorem d_X12_has_45 : decode mX12_has.2.2.1 45 = .ok (.getfield 48, 3) := by decide +kernel
theorem d_X12_has_48 : decode mX12_has.2.2.1 48 = .ok (.iaload, 1) := by decide +kernel
theorem d_X12_has_49 : decode mX12_has.2.2.1 49 = .ok (.ireturn, 1) := by decide +kernel
theorem d_X12_has_50 : decode mX12_has.2.2.1 50 = .ok (.aload_n 0, 1) := by decide +kernel
theorem d_X12_has_51 : decode mX12_has.2.2.1 51 = .ok (.getfield 66, 3) := by decide +kernel
theorem d_X12_has_54 : decode mX12_has.2.2.1 54 = .ok (.aload_n 0, 1) := by decide +kernel
theorem d_X12_has_55 : decode mX12_has.2.2.1 55 = .ok (.getfield 48, 3) := by decide +kernel
theorem d_X12_has_58 : decode mX12_has.2.2.1 58 = .ok (.iaload, 1) := by decide +kernel
theorem d_X12_has_59 : decode mX12_has.2.2.1 59 = .ok (.ireturn, 1) := by decide +kernel
theorem d_X12_has_60 : decode mX12_has.2.2.1 60 = .ok (.aload_n 0, 1) := by decide +kernel
theorem d_X12_has_61 : decode mX12_has.2.2.1 61 = .ok (.getfield 69, 3) := by decide +kernel
theorem d_X12_has_64 : decode mX12_has.2.2.1 64 = .ok (.aload_n 0, 1) := by decide +kernel
theorem d_X12_has_65 : decode mX12_has.2.2.1 65 = .ok (.getfield 48, 3) := by decide +kernel
theorem d_X12_has_68 : decode mX12_has.2.2.1 68 = .ok (.iaload, 1) := by decide +kernel
theorem d_X12_has_69 : decode mX12_has.2.2.1 69 = .ok (.ireturn, 1) := by decide +kernel
theorem d_X11_has_50 : decode mX11_has.2.2.1 50 = .ok (.aload_n 0, 1) := by decide +kernel
theorem d_X11_has_51 : decode mX11_has.2.2.1 51 = .ok (.getfield 30, 3) := by decide +kernel
theorem d_X11_has_54 : decode mX11_has.2.2.1 54 = .ok (.getfield 115, 3) := by decide +kernel
theorem d_X11_has_57 : decode mX11_has.2.2.1 57 = .ok (.getfield 119, 3) := by decide +kernel
theorem d_X11_has_60 : decode mX11_has.2.2.1 60 = .ok (.ireturn, 1) := by decide +kernel
theorem d_X12_has_70 : decode mX12_has.2.2.1 70 = .ok (.aload_n 0, 1) := by decide +kernel
theorem d_X12_has_71 : decode mX12_has.2.2.1 71 = .ok (.getfield 72, 3) := by decide +kernel
theorem d_X12_has_74 : decode mX12_has.2.2.1 74 = .ok (.aload_n 0, 1) := by decide +kernel
theorem d_X12_has_75 : decode mX12_has.2.2.1 75 = .ok (.getfield 48, 3) := by decide +kernel
theorem d_X12_has_78 : decode mX12_has.2.2.1 78 = .ok (.iaload, 1) := by decide +kernel
theorem d_X12_has_79 : decode mX12_has.2.2.1 79 = .ok (.ireturn, 1) := by decide +kernel
theorem d_X11_has_61 : decode mX11_has.2.2.1 61 = .ok (.aload_n 0, 1) := by decide +kernel
theorem d_X11_has_62 : decode mX11_has.2.2.1 62 = .ok (.getfield 70, 3) := by decide +kernel
theorem d_X11_has_65 : decode mX11_has.2.2.1 65 = .ok (.getfield 133, 3) := by decide +kernel
theorem f_11_133 : e_fld 11 133 2 0 7 0 false := ⟨RX2, TX2, 0, rfl, rfl, by decide, rfl, rfl, rfl, iX2, tblG_in (inT2 (List.mem_of_getElem? (i := 219) rfl)) rfl, tyX2_ok, nmX2⟩
theorem d_X11_has_68 : decode mX11_has.2.2.1 68 = .ok (.ireturn, 1) := by decide +kernel
theorem d_X12_has_80 : decode mX12_has.2.2.1 80 = .ok (.aload_n 0, 1) := by decide +kernel
theorem d_X12_has_81 : decode mX12_has.2.2.1 81 = .ok (.getfield 333, 3) := by decide +kernel
theorem d_X12_has_84 : decode mX12_has.2.2.1 84 = .ok (.ireturn, 1) := by decide +kernel
theorem d_X11_has_69 : decode mX11_has.2.2.1 69 = .ok (.aload_n 0, 1) := by decide +kernel
theorem d_X11_has_70 : decode mX11_has.2.2.1 70 = .ok (.getfield 77, 3) := by decide +kernel
theorem d_X11_has_73 : decode mX11_has.2.2.1 73 = .ok (.getfield 136, 3) := by decide +kernel
theorem f_11_136 : e_fld 11 136 0 0 8 0 false := ⟨RX0, TX0, 0, rfl, rfl, by decide, rfl, rfl, rfl, iX0, tblG_in (inT3 (List.mem_of_getElem? (i := 10) rfl)) rfl, tyX0_ok, nmX0⟩
theorem d_X11_has_76 : decode mX11_has.2.2.1 76 = .ok (.ireturn, 1) := by decide +kernel
theorem d_X12_has_85 : decode mX12_has.2.2.1 85 = .ok (.aload_n 0, 1) := by decide +kernel
theorem d_X12_has_86 : decode mX12_has.2.2.1 86 = .ok (.getfield 354, 3) := by decide +kernel
theorem d_X12_has_89 : decode mX12_has.2.2.1 89 = .ok (.ireturn, 1) := by decide +kernel
def mX11_letter : MD := (11, yX11_letter, cX11_letter, 4, some .int)
theorem sel_X11_letter : Cond.instanceMethod mX11_letter.2.1 ∈ tblG ∧ Cond.selects mX11_letter.2.1.cls mX11_letter.2.1 mX11_letter.2.1 ∈ tblG := ⟨tblG_in (inT4 (List.mem_of_getElem? (i := 211) rfl)) rfl, tblG_in (inT4 (List.mem_of_getElem? (i := 212) rfl)) rfl⟩
theorem s_13_37 : e_siteV 13 37 mX11_letter 11 := ⟨tblG_in (inT4 (List.mem_of_getElem? (i := 210) rfl)) rfl, sel_X11_letter.1, sel_X11_letter.2, rfl⟩
theorem ok_X11_letter : e_m mX11_letter 3 := ⟨tblG_in (inT4 (List.mem_of_getElem? (i := 213) rfl)) rfl, by decide, rfl, ini_11, by decide +kernel, by decide⟩
theorem d_X11_letter_0 : decode mX11_letter.2.2.1 0 = .ok (.iload_n 1, 1) := by decide +kernel
theorem d_X11_letter_1 : decode mX11_letter.2.2.1 1 = .ok (.ifCond .lt 25, 3) := by decide +kernel
theorem d_X11_letter_26 : decode mX11_letter.2.2.1 26 = .ok (.iconst (-1), 1) := by decide +kernel
theorem d_X11_letter_27 : decode mX11_letter.2.2.1 27 = .ok (.ireturn, 1) := by decide +kernel
def mX12_letter : MD := (12, yX12_letter, cX12_letter, 4, some .int)
theorem sel_X12_letter : Cond.instanceMethod mX12_letter.2.1 ∈ tblG ∧ Cond.selects mX12_letter.2.1.cls mX12_letter.2.1 mX12_letter.2.1 ∈ tblG := ⟨tblG_in (inT9 (List.mem_of_getElem? (i := 27) rfl)) rfl, tblG_in (inT9 (List.mem_of_getElem? (i := 28) rfl)) rfl⟩
theorem s_13_41 : e_siteV 13 41 mX12_letter 12 := ⟨tblG_in (inT9 (List.mem_of_getElem? (i := 26) rfl)) rfl, sel_X12_letter.1, sel_X12_letter.2, rfl⟩
theorem ok_X12_letter : e_m mX12_letter 3 := ⟨tblG_in (inT9 (List.mem_of_getElem? (i := 29) rfl)) rfl, by decide, rfl, ini_12, by decide +kernel, by decide⟩
theorem d_X12_letter_0 : decode mX12_letter.2.2.1 0 = .ok (.iload_n 1, 1) := by decide +kernel
theorem d_X12_letter_1 : decode mX12_letter.2.2.1 1 = .ok (.ifCond .ne 30, 3) := by decide +kernel
theorem d_X12_letter_31 : decode mX12_letter.2.2.1 31 = .ok (.iload_n 1, 1) := by decide +kernel
theorem d_X12_letter_32 : decode mX12_letter.2.2.1 32 = .ok (.iconst 1, 1) := by decide +kernel
theorem d_X12_letter_33 : decode mX12_letter.2.2.1 33 = .ok (.if_icmp .ne 29, 3) := by decide +kernel
theorem d_X12_letter_62 : decode mX12_letter.2.2.1 62 = .ok (.iload_n 1, 1) := by decide +kernel
theorem d_X12_letter_63 : decode mX12_letter.2.2.1 63 = .ok (.iconst 2, 1) := by decide +kernel
theorem d_X12_letter_64 : decode mX12_letter.2.2.1 64 = .ok (.if_icmp .ne 41, 3) := by decide +kernel
theorem d_X12_letter_105 : decode mX12_letter.2.2.1 105 = .ok (.iconst (-1), 1) := by decide +kernel
theorem d_X12_letter_106 : decode mX12_letter.2.2.1 106 = .ok (.ireturn, 1) := by decide +kernel
theorem d_X11_letter_4 : decode mX11_letter.2.2.1 4 = .ok (.iload_n 1, 1) := by decide +kernel
theorem d_X11_letter_5 : decode mX11_letter.2.2.1 5 = .ok (.iconst 3, 1) := by decide +kernel
theorem d_X11_letter_6 : decode mX11_letter.2.2.1 6 = .ok (.if_icmp .ge 20, 3) := by decide +kernel
theorem d_X11_letter_9 : decode mX11_letter.2.2.1 9 = .ok (.iload_n 2, 1) := by decide +kernel
theorem d_X11_letter_10 : decode mX11_letter.2.2.1 10 = .ok (.ifCond .lt 16, 3) := by decide +kernel
theorem d_X12_letter_67 : decode mX12_letter.2.2.1 67 = .ok (.iload_n 2, 1) := by decide +kernel
theorem d_X12_letter_68 : decode mX12_letter.2.2.1 68 = .ok (.iconst 0, 1) := by decide +kernel
theorem d_X12_letter_69 : decode mX12_letter.2.2.1 69 = .ok (.aload_n 0, 1) := by decide +kernel
theorem d_X12_letter_70 : decode mX12_letter.2.2.1 70 = .ok (.getfield 69, 3) := by decide +kernel
theorem d_X12_letter_73 : decode mX12_letter.2.2.1 73 = .ok (.aload_n 0, 1) := by decide +kernel
theorem d_X12_letter_74 : decode mX12_letter.2.2.1 74 = .ok (.getfield 48, 3) := by decide +kernel
theorem d_X12_letter_77 : decode mX12_letter.2.2.1 77 = .ok (.iaload, 1) := by decide +kernel
theorem d_X12_letter_78 : decode mX12_letter.2.2.1 78 = .ok (.iconst 1, 1) := by decide +kernel
theorem d_X12_letter_79 : decode mX12_letter.2.2.1 79 = .ok (.isub, 1) := by decide +kernel
theorem d_X12_letter_80 : decode mX12_letter.2.2.1 80 = .ok (.invokestatic 467, 3) := by decide +kernel
def mX12_is : MD := (12, yX12_is, cX12_is, 3, some .boolean)
theorem s_12_467 : e_siteS 12 467 mX12_is := ⟨tblG_in (inT8 (List.mem_of_getElem? (i := 119) rfl)) rfl, tblG_in (inT8 (List.mem_of_getElem? (i := 120) rfl)) rfl⟩
theorem ok_X12_is : e_m mX12_is 3 := ⟨tblG_in (inT8 (List.mem_of_getElem? (i := 121) rfl)) rfl, by decide, rfl, ini_12, by decide +kernel, by decide⟩
theorem d_X12_is_0 : decode mX12_is.2.2.1 0 = .ok (.iload_n 0, 1) := by decide +kernel
theorem d_X12_is_1 : decode mX12_is.2.2.1 1 = .ok (.iload_n 1, 1) := by decide +kernel
theorem d_X12_is_2 : decode mX12_is.2.2.1 2 = .ok (.if_icmp .lt 12, 3) := by decide +kernel
theorem d_X12_is_14 : decode mX12_is.2.2.1 14 = .ok (.iconst 0, 1) := by decide +kernel
theorem d_X12_is_15 : decode mX12_is.2.2.1 15 = .ok (.ireturn, 1) := by decide +kernel
theorem d_X12_letter_83 : decode mX12_letter.2.2.1 83 = .ok (.ifCond .eq 22, 3) := by decide +kernel
theorem d_X12_letter_36 : decode mX12_letter.2.2.1 36 = .ok (.aload_n 0, 1) := by decide +kernel
theorem d_X12_letter_37 : decode mX12_letter.2.2.1 37 = .ok (.iload_n 2, 1) := by decide +kernel
theorem d_X12_letter_38 : decode mX12_letter.2.2.1 38 = .ok (.invokevirtual 562, 3) := by decide +kernel
def mX12_isInput : MD := (12, yX12_isInput, cX12_isInput, 2, some .boolean)
theorem sel_X12_isInput : Cond.instanceMethod mX12_isInput.2.1 ∈ tblG ∧ Cond.selects mX12_isInput.2.1.cls mX12_isInput.2.1 mX12_isInput.2.1 ∈ tblG := ⟨tblG_in (inT9 (List.mem_of_getElem? (i := 40) rfl)) rfl, tblG_in (inP7 (q := (mX12_isInput.2.1, 121)) (List.mem_of_getElem? (i := 9) rfl)) rfl⟩
theorem s_12_562 : e_siteV 12 562 mX12_isInput 12 := ⟨tblG_in (inT9 (List.mem_of_getElem? (i := 38) rfl)) rfl, sel_X12_isInput.1, sel_X12_isInput.2, rfl⟩
theorem ok_X12_isInput : e_m mX12_isInput 1 := ⟨tblG_in (inT9 (List.mem_of_getElem? (i := 41) rfl)) rfl, by decide, rfl, ini_12, by decide +kernel, by decide⟩
theorem d_X12_isInput_0 : decode mX12_isInput.2.2.1 0 = .ok (.iload_n 1, 1) := by decide +kernel
theorem d_X12_isInput_1 : decode mX12_isInput.2.2.1 1 = .ok (.iconst 0, 1) := by decide +kernel
theorem d_X12_isInput_2 : decode mX12_isInput.2.2.1 2 = .ok (.aload_n 0, 1) := by decide +kernel
theorem d_X12_isInput_3 : decode mX12_isInput.2.2.1 3 = .ok (.getfield 66, 3) := by decide +kernel
theorem d_X12_isInput_6 : decode mX12_isInput.2.2.1 6 = .ok (.aload_n 0, 1) := by decide +kernel
theorem d_X12_isInput_7 : decode mX12_isInput.2.2.1 7 = .ok (.getfield 48, 3) := by decide +kernel
theorem d_X12_isInput_10 : decode mX12_isInput.2.2.1 10 = .ok (.iaload, 1) := by decide +kernel
theorem d_X12_isInput_11 : decode mX12_isInput.2.2.1 11 = .ok (.iconst 1, 1) := by decide +kernel
theorem d_X12_isInput_12 : decode mX12_isInput.2.2.1 12 = .ok (.isub, 1) := by decide +kernel
theorem d_X12_isInput_13 : decode mX12_isInput.2.2.1 13 = .ok (.invokestatic 467, 3) := by decide +kernel
theorem d_X12_isInput_16 : decode mX12_isInput.2.2.1 16 = .ok (.ireturn, 1) := by decide +kernel
theorem d_X12_letter_41 : decode mX12_letter.2.2.1 41 = .ok (.ifCond .eq 21, 3) := by decide +kernel
theorem d_X12_letter_4 : decode mX12_letter.2.2.1 4 = .ok (.aload_n 0, 1) := by decide +kernel
theorem d_X12_letter_5 : decode mX12_letter.2.2.1 5 = .ok (.iload_n 2, 1) := by decide +kernel
theorem d_X12_letter_6 : decode mX12_letter.2.2.1 6 = .ok (.invokevirtual 555, 3) := by decide +kernel
def mX12_isPart : MD := (12, yX12_isPart, cX12_isPart, 2, some .boolean)
theorem sel_X12_isPart : Cond.instanceMethod mX12_isPart.2.1 ∈ tblG ∧ Cond.selects mX12_isPart.2.1.cls mX12_isPart.2.1 mX12_isPart.2.1 ∈ tblG := ⟨tblG_in (inT9 (List.mem_of_getElem? (i := 32) rfl)) rfl, tblG_in (inP7 (q := (mX12_isPart.2.1, 121)) (List.mem_of_getElem? (i := 8) rfl)) rfl⟩
theorem s_12_555 : e_siteV 12 555 mX12_isPart 12 := ⟨tblG_in (inT9 (List.mem_of_getElem? (i := 30) rfl)) rfl, sel_X12_isPart.1, sel_X12_isPart.2, rfl⟩
theorem ok_X12_isPart : e_m mX12_isPart 1 := ⟨tblG_in (inT9 (List.mem_of_getElem? (i := 33) rfl)) rfl, by decide, rfl, ini_12, by decide +kernel, by decide⟩
theorem d_X12_isPart_0 : decode mX12_isPart.2.2.1 0 = .ok (.iload_n 1, 1) := by decide +kernel
theorem d_X12_isPart_1 : decode mX12_isPart.2.2.1 1 = .ok (.iconst 0, 1) := by decide +kernel
theorem d_X12_isPart_2 : decode mX12_isPart.2.2.1 2 = .ok (.aload_n 0, 1) := by decide +kernel
theorem d_X12_isPart_3 : decode mX12_isPart.2.2.1 3 = .ok (.getfield 63, 3) := by decide +kernel
theorem d_X12_isPart_6 : decode mX12_isPart.2.2.1 6 = .ok (.aload_n 0, 1) := by decide +kernel
theorem d_X12_isPart_7 : decode mX12_isPart.2.2.1 7 = .ok (.getfield 48, 3) := by decide +kernel
theorem d_X12_isPart_10 : decode mX12_isPart.2.2.1 10 = .ok (.iaload, 1) := by decide +kernel
theorem d_X12_isPart_11 : decode mX12_isPart.2.2.1 11 = .ok (.iconst 1, 1) := by decide +kernel
theorem d_X12_isPart_12 : decode mX12_isPart.2.2.1 12 = .ok (.isub, 1) := by decide +kernel
theorem d_X12_isPart_13 : decode mX12_isPart.2.2.1 13 = .ok (.invokestatic 467, 3) := by decide +kernel
theorem d_X12_isPart_16 : decode mX12_isPart.2.2.1 16 = .ok (.ireturn, 1) := by decide +kernel
theorem d_X12_letter_9 : decode mX12_letter.2.2.1 9 = .ok (.ifCond .eq 22, 3) := by decide +kernel
theorem d_X11_letter_13 : decode mX11_letter.2.2.1 13 = .ok (.iload_n 2, 1) := by decide +kernel
theorem d_X11_letter_14 : decode mX11_letter.2.2.1 14 = .ok (.aload_n 0, 1) := by decide +kernel
theorem d_X11_letter_15 : decode mX11_letter.2.2.1 15 = .ok (.getfield 30, 3) := by decide +kernel
theorem d_X11_letter_18 : decode mX11_letter.2.2.1 18 = .ok (.getfield 130, 3) := by decide +kernel
theorem d_X11_letter_21 : decode mX11_letter.2.2.1 21 = .ok (.iload_n 1, 1) := by decide +kernel
theorem d_X11_letter_22 : decode mX11_letter.2.2.1 22 = .ok (.iaload, 1) := by decide +kernel
theorem d_X11_letter_23 : decode mX11_letter.2.2.1 23 = .ok (.if_icmp .lt 5, 3) := by decide +kernel
theorem d_X12_is_5 : decode mX12_is.2.2.1 5 = .ok (.iload_n 0, 1) := by decide +kernel
theorem d_X12_is_6 : decode mX12_is.2.2.1 6 = .ok (.iload_n 2, 1) := by decide +kernel
theorem d_X12_is_7 : decode mX12_is.2.2.1 7 = .ok (.if_icmp .gt 7, 3) := by decide +kernel
def mX11_put : MD := (11, yX11_put, cX11_put, 3, some .boolean)
theorem sel_X11_put : Cond.instanceMethod mX11_put.2.1 ∈ tblG ∧ Cond.selects mX11_put.2.1.cls mX11_put.2.1 mX11_put.2.1 ∈ tblG := ⟨tblG_in (inT4 (List.mem_of_getElem? (i := 219) rfl)) rfl, tblG_in (inT4 (List.mem_of_getElem? (i := 220) rfl)) rfl⟩
theorem s_13_42 : e_siteV 13 42 mX11_put 11 := ⟨tblG_in (inT4 (List.mem_of_getElem? (i := 218) rfl)) rfl, sel_X11_put.1, sel_X11_put.2, rfl⟩
theorem ok_X11_put : e_m mX11_put 2 := ⟨tblG_in (inT4 (List.mem_of_getElem? (i := 221) rfl)) rfl, by decide, rfl, ini_11, by decide +kernel, by decide⟩
theorem d_X11_put_0 : decode mX11_put.2.2.1 0 = .ok (.iload_n 1, 1) := by decide +kernel
theorem d_X11_put_1 : decode mX11_put.2.2.1 1 = .ok (.ifCond .lt 16, 3) := by decide +kernel
theorem d_X11_put_17 : decode mX11_put.2.2.1 17 = .ok (.iconst 0, 1) := by decide +kernel
theorem d_X11_put_18 : decode mX11_put.2.2.1 18 = .ok (.ireturn, 1) := by decide +kernel
def mX12_put_ : MD := (12, yX12_put_, cX12_put_, 3, some .boolean)
theorem sel_X12_put_ : Cond.instanceMethod mX12_put_.2.1 ∈ tblG ∧ Cond.selects mX12_put_.2.1.cls mX12_put_.2.1 mX12_put_.2.1 ∈ tblG := ⟨tblG_in (inT9 (List.mem_of_getElem? (i := 43) rfl)) rfl, tblG_in (inT9 (List.mem_of_getElem? (i := 44) rfl)) rfl⟩
theorem s_13_46 : e_siteV 13 46 mX12_put_ 12 := ⟨tblG_in (inT9 (List.mem_of_getElem? (i := 42) rfl)) rfl, sel_X12_put_.1, sel_X12_put_.2, rfl⟩
theorem ok_X12_put_ : e_m mX12_put_ 2 := ⟨tblG_in (inT9 (List.mem_of_getElem? (i := 45) rfl)) rfl, by decide, rfl, ini_12, by decide +kernel, by decide⟩
theorem d_X12_put__0 : decode mX12_put_.2.2.1 0 = .ok (.aload_n 0, 1) := by decide +kernel
theorem d_X12_put__1 : decode mX12_put_.2.2.1 1 = .ok (.iload_n 1, 1) := by decide +kernel
theorem d_X12_put__2 : decode mX12_put_.2.2.1 2 = .ok (.invokevirtual 562, 3) := by decide +kernel
theorem d_X12_put__5 : decode mX12_put_.2.2.1 5 = .ok (.ifCond .eq 36, 3) := by decide +kernel
theorem d_X12_put__41 : decode mX12_put_.2.2.1 41 = .ok (.iconst 0, 1) := by decide +kernel
theorem d_X12_put__42 : decode mX12_put_.2.2.1 42 = .ok (.ireturn, 1) := by decide +kernel
theorem d_X11_put_4 : decode mX11_put.2.2.1 4 = .ok (.iload_n 1, 1) := by decide +kernel
theorem d_X11_put_5 : decode mX11_put.2.2.1 5 = .ok (.aload_n 0, 1) := by decide +kernel
theorem d_X11_put_6 : decode mX11_put.2.2.1 6 = .ok (.getfield 30, 3) := by decide +kernel
theorem d_X11_put_9 : decode mX11_put.2.2.1 9 = .ok (.getfield 130, 3) := by decide +kernel
theorem d_X11_put_12 : decode mX11_put.2.2.1 12 = .ok (.iconst 1, 1) := by decide +kernel
theorem d_X11_put_13 : decode mX11_put.2.2.1 13 = .ok (.iaload, 1) := by decide +kernel
theorem d_X11_put_14 : decode mX11_put.2.2.1 14 = .ok (.if_icmp .lt 5, 3) := by decide +kernel
def mX11_run : MD := (11, yX11_run, cX11_run, 2, some .int)
theorem sel_X11_run : Cond.instanceMethod mX11_run.2.1 ∈ tblG ∧ Cond.selects mX11_run.2.1.cls mX11_run.2.1 mX11_run.2.1 ∈ tblG := ⟨tblG_in (inT4 (List.mem_of_getElem? (i := 223) rfl)) rfl, tblG_in (inT4 (List.mem_of_getElem? (i := 224) rfl)) rfl⟩
theorem s_13_47 : e_siteV 13 47 mX11_run 11 := ⟨tblG_in (inT4 (List.mem_of_getElem? (i := 222) rfl)) rfl, sel_X11_run.1, sel_X11_run.2, rfl⟩
theorem ok_X11_run : e_m mX11_run 1 := ⟨tblG_in (inT4 (List.mem_of_getElem? (i := 225) rfl)) rfl, by decide, rfl, ini_11, by decide +kernel, by decide⟩
theorem d_X11_run_0 : decode mX11_run.2.2.1 0 = .ok (.iload_n 1, 1) := by decide +kernel
theorem d_X11_run_1 : decode mX11_run.2.2.1 1 = .ok (.iconst (-1), 1) := by decide +kernel
theorem d_X11_run_2 : decode mX11_run.2.2.1 2 = .ok (.if_icmp .ge 6, 3) := by decide +kernel
theorem d_X11_run_8 : decode mX11_run.2.2.1 8 = .ok (.aload_n 0, 1) := by decide +kernel
theorem d_X11_run_9 : decode mX11_run.2.2.1 9 = .ok (.getfield 46, 3) := by decide +kernel
theorem d_X11_run_12 : decode mX11_run.2.2.1 12 = .ok (.aload_n 0, 1) := by decide +kernel
theorem d_X11_run_13 : decode mX11_run.2.2.1 13 = .ok (.getfield 30, 3) := by decide +kernel
theorem d_X11_run_16 : decode mX11_run.2.2.1 16 = .ok (.aload_n 0, 1) := by decide +kernel
theorem d_X11_run_17 : decode mX11_run.2.2.1 17 = .ok (.getfield 37, 3) := by decide +kernel
theorem d_X11_run_20 : decode mX11_run.2.2.1 20 = .ok (.iload_n 1, 1) := by decide +kernel
theorem d_X11_run_21 : decode mX11_run.2.2.1 21 = .ok (.invokevirtual 144, 3) := by decide +kernel
def mX6_go : MD := (6, yX6_go, cX6_go, 8, none)
theorem sel_X6_go : Cond.instanceMethod mX6_go.2.1 ∈ tblG ∧ Cond.selects mX6_go.2.1.cls mX6_go.2.1 mX6_go.2.1 ∈ tblG := ⟨tblG_in (inT4 (List.mem_of_getElem? (i := 227) rfl)) rfl, tblG_in (inT4 (List.mem_of_getElem? (i := 228) rfl)) rfl⟩
theorem s_11_144 : e_siteV 11 144 mX6_go 6 := ⟨tblG_in (inT4 (List.mem_of_getElem? (i := 226) rfl)) rfl, sel_X6_go.1, sel_X6_go.2, rfl⟩
theorem ok_X6_go : e_m mX6_go 3 := ⟨tblG_in (inT4 (List.mem_of_getElem? (i := 229) rfl)) rfl, by decide, rfl, ini_6, by decide +kernel, by decide⟩
theorem d_X6_go_0 : decode mX6_go.2.2.1 0 = .ok (.aload_n 0, 1) := by decide +kernel
theorem d_X6_go_1 : decode mX6_go.2.2.1 1 = .ok (.aload_n 1, 1) := by decide +kernel
theorem d_X6_go_2 : decode mX6_go.2.2.1 2 = .ok (.aload_n 2, 1) := by decide +kernel
theorem d_X6_go_3 : decode mX6_go.2.2.1 3 = .ok (.iload_n 3, 1) := by decide +kernel
theorem d_X6_go_4 : decode mX6_go.2.2.1 4 = .ok (.invokevirtual 42, 3) := by decide +kernel
def mX6_begin : MD := (6, yX6_begin, cX6_begin, 4, none)
theorem sel_X6_begin : Cond.instanceMethod mX6_begin.2.1 ∈ tblG ∧ Cond.selects mX6_begin.2.1.cls mX6_begin.2.1 mX6_begin.2.1 ∈ tblG := ⟨tblG_in (inT4 (List.mem_of_getElem? (i := 232) rfl)) rfl, tblG_in (inP3 (q := (mX6_begin.2.1, 18)) (List.mem_of_getElem? (i := 11) rfl)) rfl⟩
theorem s_6_42 : e_siteV 6 42 mX6_begin 6 := ⟨tblG_in (inT4 (List.mem_of_getElem? (i := 230) rfl)) rfl, sel_X6_begin.1, sel_X6_begin.2, rfl⟩
theorem ok_X6_begin : e_m mX6_begin 3 := ⟨tblG_in (inT4 (List.mem_of_getElem? (i := 233) rfl)) rfl, by decide, rfl, ini_6, by decide +kernel, by decide⟩
theorem d_X6_begin_0 : decode mX6_begin.2.2.1 0 = .ok (.aload_n 0, 1) := by decide +kernel
theorem d_X6_begin_1 : decode mX6_begin.2.2.1 1 = .ok (.aload_n 1, 1) := by decide +kernel
theorem d_X6_begin_2 : decode mX6_begin.2.2.1 2 = .ok (.putfield 46, 3) := by decide +kernel
theorem f_6_46 : e_fld 6 46 6 1 18 2 false := ⟨RX6, TX6, 1, rfl, rfl, by decide, rfl, rfl, rfl, iX6, tblG_in (inT2 (List.mem_of_getElem? (i := 101) rfl)) rfl, tyX6_ok, nmX6⟩
theorem d_X6_begin_5 : decode mX6_begin.2.2.1 5 = .ok (.aload_n 2, 1) := by decide +kernel
theorem d_X6_begin_6 : decode mX6_begin.2.2.1 6 = .ok (.iconst 0, 1) := by decide +kernel
theorem d_X6_begin_7 : decode mX6_begin.2.2.1 7 = .ok (.aload_n 0, 1) := by decide +kernel
theorem d_X6_begin_8 : decode mX6_begin.2.2.1 8 = .ok (.getfield 9, 3) := by decide +kernel
theorem d_X6_begin_11 : decode mX6_begin.2.2.1 11 = .ok (.iconst 0, 1) := by decide +kernel
theorem d_X6_begin_12 : decode mX6_begin.2.2.1 12 = .ok (.iconst 3, 1) := by decide +kernel
theorem d_X6_begin_13 : decode mX6_begin.2.2.1 13 = .ok (.invokestatic 85, 3) := by decide +kernel
theorem ac_6_85 : Cond.methodLink (e_cn 6) 85 arraycopyName ∈ tblG := tblG_in (inT4 (List.mem_of_getElem? (i := 234) rfl)) rfl
theorem d_X6_begin_16 : decode mX6_begin.2.2.1 16 = .ok (.aload_n 0, 1) := by decide +kernel
theorem d_X6_begin_17 : decode mX6_begin.2.2.1 17 = .ok (.getfield 15, 3) := by decide +kernel
theorem d_X6_begin_20 : decode mX6_begin.2.2.1 20 = .ok (.iconst 0, 1) := by decide +kernel
theorem d_X6_begin_21 : decode mX6_begin.2.2.1 21 = .ok (.invokestatic 91, 3) := by decide +kernel
theorem s_6_91 : e_siteS 6 91 mJ7_fill_53178 := ⟨tblG_in (inT4 (List.mem_of_getElem? (i := 235) rfl)) rfl, tblG_in (inT3 (List.mem_of_getElem? (i := 42) rfl)) rfl⟩
theorem d_X6_begin_24 : decode mX6_begin.2.2.1 24 = .ok (.aload_n 0, 1) := by decide +kernel
theorem d_X6_begin_25 : decode mX6_begin.2.2.1 25 = .ok (.getfield 21, 3) := by decide +kernel
theorem d_X6_begin_28 : decode mX6_begin.2.2.1 28 = .ok (.iconst (-1), 1) := by decide +kernel
theorem d_X6_begin_29 : decode mX6_begin.2.2.1 29 = .ok (.invokestatic 91, 3) := by decide +kernel
theorem d_X6_begin_32 : decode mX6_begin.2.2.1 32 = .ok (.aload_n 0, 1) := by decide +kernel
theorem d_X6_begin_33 : decode mX6_begin.2.2.1 33 = .ok (.getfield 24, 3) := by decide +kernel
theorem d_X6_begin_36 : decode mX6_begin.2.2.1 36 = .ok (.iconst 0, 1) := by decide +kernel
theorem d_X6_begin_37 : decode mX6_begin.2.2.1 37 = .ok (.invokestatic 91, 3) := by decide +kernel
theorem d_X6_begin_40 : decode mX6_begin.2.2.1 40 = .ok (.aload_n 0, 1) := by decide +kernel
theorem d_X6_begin_41 : decode mX6_begin.2.2.1 41 = .ok (.getfield 27, 3) := by decide +kernel
theorem d_X6_begin_44 : decode mX6_begin.2.2.1 44 = .ok (.iconst 0, 1) := by decide +kernel
theorem d_X6_begin_45 : decode mX6_begin.2.2.1 45 = .ok (.invokestatic 91, 3) := by decide +kernel
theorem d_X6_begin_48 : decode mX6_begin.2.2.1 48 = .ok (.aload_n 0, 1) := by decide +kernel
theorem d_X6_begin_49 : decode mX6_begin.2.2.1 49 = .ok (.getfield 30, 3) := by decide +kernel
theorem d_X6_begin_52 : decode mX6_begin.2.2.1 52 = .ok (.iconst 0, 1) := by decide +kernel
theorem d_X6_begin_53 : decode mX6_begin.2.2.1 53 = .ok (.invokestatic 91, 3) := by decide +kernel
theorem d_X6_begin_56 : decode mX6_begin.2.2.1 56 = .ok (.aload_n 0, 1) := by decide +kernel
theorem d_X6_begin_57 : decode mX6_begin.2.2.1 57 = .ok (.iconst 0, 1) := by decide +kernel
theorem d_X6_begin_58 : decode mX6_begin.2.2.1 58 = .ok (.putfield 68, 3) := by decide +kernel
theorem f_6_68 : e_fld 6 68 6 9 18 0 false := ⟨RX6, TX6, 9, rfl, rfl, by decide, rfl, rfl, rfl, iX6, tblG_in (inT2 (List.mem_of_getElem? (i := 110) rfl)) rfl, tyX6_ok, nmX6⟩
theorem d_X6_begin_61 : decode mX6_begin.2.2.1 61 = .ok (.aload_n 0, 1) := by decide +kernel
theorem d_X6_begin_62 : decode mX6_begin.2.2.1 62 = .ok (.iconst 0, 1) := by decide +kernel
theorem d_X6_begin_63 : decode mX6_begin.2.2.1 63 = .ok (.putfield 97, 3) := by decide +kernel
theorem f_6_97 : e_fld 6 97 6 11 18 0 false := ⟨RX6, TX6, 11, rfl, rfl, by decide, rfl, rfl, rfl, iX6, tblG_in (inT2 (List.mem_of_getElem? (i := 115) rfl)) rfl, tyX6_ok, nmX6⟩
theorem d_X6_begin_66 : decode mX6_begin.2.2.1 66 = .ok (.aload_n 0, 1) := by decide +kernel
theorem d_X6_begin_67 : decode mX6_begin.2.2.1 67 = .ok (.iconst 0, 1) := by decide +kernel
theorem d_X6_begin_68 : decode mX6_begin.2.2.1 68 = .ok (.putfield 100, 3) := by decide +kernel
theorem f_6_100 : e_fld 6 100 6 12 18 0 false := ⟨RX6, TX6, 12, rfl, rfl, by decide, rfl, rfl, rfl, iX6, tblG_in (inT2 (List.mem_of_getElem? (i := 117) rfl)) rfl, tyX6_ok, nmX6⟩
theorem d_X6_begin_71 : decode mX6_begin.2.2.1 71 = .ok (.aload_n 0, 1) := by decide +kernel
theorem d_X6_begin_72 : decode mX6_begin.2.2.1 72 = .ok (.iconst 0, 1) := by decide +kernel
theorem d_X6_begin_73 : decode mX6_begin.2.2.1 73 = .ok (.putfield 103, 3) := by decide +kernel
theorem f_6_103 : e_fld 6 103 6 13 18 0 false := ⟨RX6, TX6, 13, rfl, rfl, by decide, rfl, rfl, rfl, iX6, tblG_in (inT2 (List.mem_of_getElem? (i := 119) rfl)) rfl, tyX6_ok, nmX6⟩
theorem d_X6_begin_76 : decode mX6_begin.2.2.1 76 = .ok (.aload_n 0, 1) := by decide +kernel
theorem d_X6_begin_77 : decode mX6_begin.2.2.1 77 = .ok (.iconst 0, 1) := by decide +kernel
theorem d_X6_begin_78 : decode mX6_begin.2.2.1 78 = .ok (.putfield 62, 3) := by decide +kernel
theorem f_6_62 : e_fld 6 62 6 14 18 0 false := ⟨RX6, TX6, 14, rfl, rfl, by decide, rfl, rfl, rfl, iX6, tblG_in (inT2 (List.mem_of_getElem? (i := 121) rfl)) rfl, tyX6_ok, nmX6⟩
theorem d_X6_begin_81 : decode mX6_begin.2.2.1 81 = .ok (.aload_n 0, 1) := by decide +kernel
theorem d_X6_begin_82 : decode mX6_begin.2.2.1 82 = .ok (.iconst (-1), 1) := by decide +kernel
theorem d_X6_begin_83 : decode mX6_begin.2.2.1 83 = .ok (.putfield 79, 3) := by decide +kernel
theorem f_6_79 : e_fld 6 79 6 15 18 0 false := ⟨RX6, TX6, 15, rfl, rfl, by decide, rfl, rfl, rfl, iX6, tblG_in (inT2 (List.mem_of_getElem? (i := 123) rfl)) rfl, tyX6_ok, nmX6⟩
theorem d_X6_begin_86 : decode mX6_begin.2.2.1 86 = .ok (.aload_n 0, 1) := by decide +kernel
theorem d_X6_begin_87 : decode mX6_begin.2.2.1 87 = .ok (.iload_n 3, 1) := by decide +kernel
theorem d_X6_begin_88 : decode mX6_begin.2.2.1 88 = .ok (.ifCond .lt 7, 3) := by decide +kernel
theorem d_X6_begin_95 : decode mX6_begin.2.2.1 95 = .ok (.iconst 0, 1) := by decide +kernel
theorem d_X6_begin_96 : decode mX6_begin.2.2.1 96 = .ok (.putfield 106, 3) := by decide +kernel
theorem f_6_106 : e_fld 6 106 6 16 18 3 false := ⟨RX6, TX6, 16, rfl, rfl, by decide, rfl, rfl, rfl, iX6, tblG_in (inT2 (List.mem_of_getElem? (i := 125) rfl)) rfl, tyX6_ok, nmX6⟩
theorem d_X6_begin_99 : decode mX6_begin.2.2.1 99 = .ok (.aload_n 0, 1) := by decide +kernel
theorem d_X6_begin_100 : decode mX6_begin.2.2.1 100 = .ok (.iload_n 3, 1) := by decide +kernel
theorem d_X6_begin_101 : decode mX6_begin.2.2.1 101 = .ok (.putfield 110, 3) := by decide +kernel
theorem f_6_110 : e_fld 6 110 6 17 18 0 false := ⟨RX6, TX6, 17, rfl, rfl, by decide, rfl, rfl, rfl, iX6, tblG_in (inT2 (List.mem_of_getElem? (i := 126) rfl)) rfl, tyX6_ok, nmX6⟩
theorem d_X6_begin_104 : decode mX6_begin.2.2.1 104 = .ok (.aload_n 0, 1) := by decide +kernel
theorem d_X6_begin_105 : decode mX6_begin.2.2.1 105 = .ok (.getfield 38, 3) := by decide +kernel
theorem d_X6_begin_108 : decode mX6_begin.2.2.1 108 = .ok (.aload_n 1, 1) := by decide +kernel
theorem d_X6_begin_109 : decode mX6_begin.2.2.1 109 = .ok (.invokevirtual 113, 3) := by decide +kernel
def mX1_begin : MD := (1, yX1_begin, cX1_begin, 2, none)
theorem sel_X1_begin : Cond.instanceMethod mX1_begin.2.1 ∈ tblG ∧ Cond.selects mX1_begin.2.1.cls mX1_begin.2.1 mX1_begin.2.1 ∈ tblG := ⟨tblG_in (inT4 (List.mem_of_getElem? (i := 237) rfl)) rfl, tblG_in (inT4 (List.mem_of_getElem? (i := 238) rfl)) rfl⟩
theorem s_6_113 : e_siteV 6 113 mX1_begin 1 := ⟨tblG_in (inT4 (List.mem_of_getElem? (i := 236) rfl)) rfl, sel_X1_begin.1, sel_X1_begin.2, rfl⟩
theorem ok_X1_begin : e_m mX1_begin 1 := ⟨tblG_in (inT4 (List.mem_of_getElem? (i := 239) rfl)) rfl, by decide, rfl, ini_1, by decide +kernel, by decide⟩
theorem d_X1_begin_0 : decode mX1_begin.2.2.1 0 = .ok (.aload_n 0, 1) := by decide +kernel
theorem d_X1_begin_1 : decode mX1_begin.2.2.1 1 = .ok (.aload_n 1, 1) := by decide +kernel
theorem d_X1_begin_2 : decode mX1_begin.2.2.1 2 = .ok (.putfield 41, 3) := by decide +kernel
theorem f_1_41 : e_fld 1 41 1 1 9 2 false := ⟨RX1, TX1, 1, rfl, rfl, by decide, rfl, rfl, rfl, iX1, tblG_in (inT2 (List.mem_of_getElem? (i := 67) rfl)) rfl, tyX1_ok, nmX1⟩
theorem d_X1_begin_5 : decode mX1_begin.2.2.1 5 = .ok (.aload_n 0, 1) := by decide +kernel
theorem d_X1_begin_6 : decode mX1_begin.2.2.1 6 = .ok (.getfield 9, 3) := by decide +kernel
theorem d_X1_begin_9 : decode mX1_begin.2.2.1 9 = .ok (.iconst 0, 1) := by decide +kernel
theorem d_X1_begin_10 : decode mX1_begin.2.2.1 10 = .ok (.invokestatic 45, 3) := by decide +kernel
theorem s_1_45 : e_siteS 1 45 mJ7_fill_53178 := ⟨tblG_in (inT5 (List.mem_of_getElem? (i := 0) rfl)) rfl, tblG_in (inT3 (List.mem_of_getElem? (i := 42) rfl)) rfl⟩
theorem d_X1_begin_13 : decode mX1_begin.2.2.1 13 = .ok (.aload_n 0, 1) := by decide +kernel
theorem d_X1_begin_14 : decode mX1_begin.2.2.1 14 = .ok (.getfield 37, 3) := by decide +kernel
theorem d_X1_begin_17 : decode mX1_begin.2.2.1 17 = .ok (.ifCond .eq 50, 3) := by decide +kernel
theorem d_X1_begin_20 : decode mX1_begin.2.2.1 20 = .ok (.aload_n 0, 1) := by decide +kernel
theorem d_X1_begin_21 : decode mX1_begin.2.2.1 21 = .ok (.getfield 15, 3) := by decide +kernel
theorem d_X1_begin_24 : decode mX1_begin.2.2.1 24 = .ok (.iconst (-1), 1) := by decide +kernel
theorem d_X1_begin_25 : decode mX1_begin.2.2.1 25 = .ok (.invokestatic 45, 3) := by decide +kernel
theorem d_X1_begin_28 : decode mX1_begin.2.2.1 28 = .ok (.aload_n 0, 1) := by decide +kernel
theorem d_X1_begin_29 : decode mX1_begin.2.2.1 29 = .ok (.getfield 18, 3) := by decide +kernel
theorem d_X1_begin_32 : decode mX1_begin.2.2.1 32 = .ok (.iconst (-1), 1) := by decide +kernel
theorem d_X1_begin_33 : decode mX1_begin.2.2.1 33 = .ok (.invokestatic 45, 3) := by decide +kernel
theorem d_X1_begin_36 : decode mX1_begin.2.2.1 36 = .ok (.aload_n 0, 1) := by decide +kernel
theorem d_X1_begin_37 : decode mX1_begin.2.2.1 37 = .ok (.getfield 21, 3) := by decide +kernel
theorem d_X1_begin_40 : decode mX1_begin.2.2.1 40 = .ok (.iconst 0, 1) := by decide +kernel
theorem d_X1_begin_41 : decode mX1_begin.2.2.1 41 = .ok (.invokestatic 45, 3) := by decide +kernel
theorem d_X1_begin_44 : decode mX1_begin.2.2.1 44 = .ok (.aload_n 0, 1) := by decide +kernel
theorem d_X1_begin_45 : decode mX1_begin.2.2.1 45 = .ok (.getfield 24, 3) := by decide +kernel
theorem d_X1_begin_48 : decode mX1_begin.2.2.1 48 = .ok (.iconst 0, 1) := by decide +kernel
theorem d_X1_begin_49 : decode mX1_begin.2.2.1 49 = .ok (.invokestatic 45, 3) := by decide +kernel
theorem d_X1_begin_52 : decode mX1_begin.2.2.1 52 = .ok (.aload_n 0, 1) := by decide +kernel
theorem d_X1_begin_53 : decode mX1_begin.2.2.1 53 = .ok (.getfield 27, 3) := by decide +kernel
theorem d_X1_begin_56 : decode mX1_begin.2.2.1 56 = .ok (.iconst 0, 1) := by decide +kernel
theorem d_X1_begin_57 : decode mX1_begin.2.2.1 57 = .ok (.invokestatic 45, 3) := by decide +kernel
theorem d_X1_begin_60 : decode mX1_begin.2.2.1 60 = .ok (.aload_n 0, 1) := by decide +kernel
theorem d_X1_begin_61 : decode mX1_begin.2.2.1 61 = .ok (.getfield 33, 3) := by decide +kernel
theorem d_X1_begin_64 : decode mX1_begin.2.2.1 64 = .ok (.invokevirtual 51, 3) := by decide +kernel
def mX8_clear : MD := (8, yX8_clear, cX8_clear, 1, none)
theorem sel_X8_clear : Cond.instanceMethod mX8_clear.2.1 ∈ tblG ∧ Cond.selects mX8_clear.2.1.cls mX8_clear.2.1 mX8_clear.2.1 ∈ tblG := ⟨tblG_in (inT5 (List.mem_of_getElem? (i := 2) rfl)) rfl, tblG_in (inT5 (List.mem_of_getElem? (i := 3) rfl)) rfl⟩
theorem s_1_51 : e_siteV 1 51 mX8_clear 8 := ⟨tblG_in (inT5 (List.mem_of_getElem? (i := 1) rfl)) rfl, sel_X8_clear.1, sel_X8_clear.2, rfl⟩
theorem ok_X8_clear : e_m mX8_clear 0 := ⟨tblG_in (inT5 (List.mem_of_getElem? (i := 4) rfl)) rfl, by decide, rfl, ini_8, by decide +kernel, by decide⟩
theorem d_X8_clear_0 : decode mX8_clear.2.2.1 0 = .ok (.aload_n 0, 1) := by decide +kernel
theorem d_X8_clear_1 : decode mX8_clear.2.2.1 1 = .ok (.iconst 0, 1) := by decide +kernel
theorem d_X8_clear_2 : decode mX8_clear.2.2.1 2 = .ok (.putfield 43, 3) := by decide +kernel
theorem f_8_43 : e_fld 8 43 8 0 12 0 false := ⟨RX8, TX8, 0, rfl, rfl, by decide, rfl, rfl, rfl, iX8, tblG_in (inT2 (List.mem_of_getElem? (i := 10) rfl)) rfl, tyX8_ok, nmX8⟩
theorem d_X8_clear_5 : decode mX8_clear.2.2.1 5 = .ok (.aload_n 0, 1) := by decide +kernel
theorem d_X8_clear_6 : decode mX8_clear.2.2.1 6 = .ok (.iconst 0, 1) := by decide +kernel
theorem d_X8_clear_7 : decode mX8_clear.2.2.1 7 = .ok (.putfield 47, 3) := by decide +kernel
theorem f_8_47 : e_fld 8 47 8 7 12 0 false := ⟨RX8, TX8, 7, rfl, rfl, by decide, rfl, rfl, rfl, iX8, tblG_in (inT2 (List.mem_of_getElem? (i := 30) rfl)) rfl, tyX8_ok, nmX8⟩
theorem d_X8_clear_10 : decode mX8_clear.2.2.1 10 = .ok (.aload_n 0, 1) := by decide +kernel
theorem d_X8_clear_11 : decode mX8_clear.2.2.1 11 = .ok (.getfield 28, 3) := by decide +kernel
theorem d_X8_clear_14 : decode mX8_clear.2.2.1 14 = .ok (.iconst (-1), 1) := by decide +kernel
theorem d_X8_clear_15 : decode mX8_clear.2.2.1 15 = .ok (.invokestatic 50, 3) := by decide +kernel
theorem s_8_50 : e_siteS 8 50 mJ7_fill_53178 := ⟨tblG_in (inT5 (List.mem_of_getElem? (i := 5) rfl)) rfl, tblG_in (inT3 (List.mem_of_getElem? (i := 42) rfl)) rfl⟩
theorem d_X8_clear_18 : decode mX8_clear.2.2.1 18 = .ok (.return_, 1) := by decide +kernel
theorem d_X1_begin_67 : decode mX1_begin.2.2.1 67 = .ok (.return_, 1) := by decide +kernel
theorem d_X6_begin_112 : decode mX6_begin.2.2.1 112 = .ok (.return_, 1) := by decide +kernel
theorem d_X6_go_7 : decode mX6_go.2.2.1 7 = .ok (.iconst 0, 1) := by decide +kernel
theorem d_X6_go_8 : decode mX6_go.2.2.1 8 = .ok (.istore 4, 2) := by decide +kernel
theorem d_X6_go_10 : decode mX6_go.2.2.1 10 = .ok (.iconst 0, 1) := by decide +kernel
theorem d_X6_go_11 : decode mX6_go.2.2.1 11 = .ok (.istore 5, 2) := by decide +kernel
theorem d_X6_go_13 : decode mX6_go.2.2.1 13 = .ok (.iload 5, 2) := by decide +kernel
theorem d_X6_go_15 : decode mX6_go.2.2.1 15 = .ok (.sipush 2000, 3) := by decide +kernel
theorem d_X6_go_18 : decode mX6_go.2.2.1 18 = .ok (.if_icmp .gt 85, 3) := by decide +kernel
theorem d_X6_go_21 : decode mX6_go.2.2.1 21 = .ok (.iload 4, 2) := by decide +kernel
theorem d_X6_go_23 : decode mX6_go.2.2.1 23 = .ok (.aload_n 0, 1) := by decide +kernel
theorem d_X6_go_24 : decode mX6_go.2.2.1 24 = .ok (.getfield 46, 3) := by decide +kernel
theorem d_X6_go_27 : decode mX6_go.2.2.1 27 = .ok (.getfield 50, 3) := by decide +kernel
theorem f_6_50 : e_fld 6 50 3 11 12 2 true := ⟨RX3, TX3, 11, rfl, rfl, by decide, rfl, rfl, rfl, iX3, tblG_in (inT1 (List.mem_of_getElem? (i := 205) rfl)) rfl, tyX3_ok, nmX3⟩
theorem d_X6_go_30 : decode mX6_go.2.2.1 30 = .ok (.getfield 56, 3) := by decide +kernel
theorem f_6_56 : e_fld 6 56 4 0 13 0 false := ⟨RX4, TX4, 0, rfl, rfl, by decide, rfl, rfl, rfl, iX4, tblG_in (inT1 (List.mem_of_getElem? (i := 105) rfl)) rfl, tyX4_ok, nmX4⟩
theorem d_X6_go_33 : decode mX6_go.2.2.1 33 = .ok (.if_icmp .ge 70, 3) := by decide +kernel
theorem d_X6_go_103 : decode mX6_go.2.2.1 103 = .ok (.aload_n 0, 1) := by decide +kernel
theorem d_X6_go_104 : decode mX6_go.2.2.1 104 = .ok (.invokevirtual 82, 3) := by decide +kernel
def mX6_finish : MD := (6, yX6_finish, cX6_finish, 4, none)
theorem sel_X6_finish : Cond.instanceMethod mX6_finish.2.1 ∈ tblG ∧ Cond.selects mX6_finish.2.1.cls mX6_finish.2.1 mX6_finish.2.1 ∈ tblG := ⟨tblG_in (inT5 (List.mem_of_getElem? (i := 154) rfl)) rfl, tblG_in (inP4 (q := (mX6_finish.2.1, 18)) (List.mem_of_getElem? (i := 9) rfl)) rfl⟩
theorem s_6_82 : e_siteV 6 82 mX6_finish 6 := ⟨tblG_in (inT5 (List.mem_of_getElem? (i := 152) rfl)) rfl, sel_X6_finish.1, sel_X6_finish.2, rfl⟩
theorem ok_X6_finish : e_m mX6_finish 0 := ⟨tblG_in (inT5 (List.mem_of_getElem? (i := 155) rfl)) rfl, by decide, rfl, ini_6, by decide +kernel, by decide⟩
theorem d_X6_finish_0 : decode mX6_finish.2.2.1 0 = .ok (.aload_n 0, 1) := by decide +kernel
theorem d_X6_finish_1 : decode mX6_finish.2.2.1 1 = .ok (.getfield 68, 3) := by decide +kernel
theorem d_X6_finish_4 : decode mX6_finish.2.2.1 4 = .ok (.istore_n 1, 1) := by decide +kernel
theorem d_X6_finish_5 : decode mX6_finish.2.2.1 5 = .ok (.aload_n 0, 1) := by decide +kernel
theorem d_X6_finish_6 : decode mX6_finish.2.2.1 6 = .ok (.getfield 46, 3) := by decide +kernel
theorem d_X6_finish_9 : decode mX6_finish.2.2.1 9 = .ok (.getfield 116, 3) := by decide +kernel
theorem f_6_116 : e_fld 6 116 3 4 12 2 true := ⟨RX3, TX3, 4, rfl, rfl, by decide, rfl, rfl, rfl, iX3, tblG_in (inT1 (List.mem_of_getElem? (i := 174) rfl)) rfl, tyX3_ok, nmX3⟩
theorem d_X6_finish_12 : decode mX6_finish.2.2.1 12 = .ok (.iconst 0, 1) := by decide +kernel
theorem d_X6_finish_13 : decode mX6_finish.2.2.1 13 = .ok (.iaload, 1) := by decide +kernel
theorem d_X6_finish_14 : decode mX6_finish.2.2.1 14 = .ok (.istore_n 2, 1) := by decide +kernel
theorem d_X6_finish_15 : decode mX6_finish.2.2.1 15 = .ok (.iconst 0, 1) := by decide +kernel
theorem d_X6_finish_16 : decode mX6_finish.2.2.1 16 = .ok (.istore_n 3, 1) := by decide +kernel
theorem d_X6_finish_17 : decode mX6_finish.2.2.1 17 = .ok (.iload_n 3, 1) := by decide +kernel
theorem d_X6_finish_18 : decode mX6_finish.2.2.1 18 = .ok (.iload_n 2, 1) := by decide +kernel
theorem d_X6_finish_19 : decode mX6_finish.2.2.1 19 = .ok (.if_icmp .ge 42, 3) := by decide +kernel
theorem d_X6_finish_61 : decode mX6_finish.2.2.1 61 = .ok (.iconst 0, 1) := by decide +kernel
theorem d_X6_finish_62 : decode mX6_finish.2.2.1 62 = .ok (.istore_n 3, 1) := by decide +kernel
theorem d_X6_finish_63 : decode mX6_finish.2.2.1 63 = .ok (.iload_n 3, 1) := by decide +kernel
theorem d_X6_finish_64 : decode mX6_finish.2.2.1 64 = .ok (.iload_n 2, 1) := by decide +kernel
theorem d_X6_finish_65 : decode mX6_finish.2.2.1 65 = .ok (.if_icmp .ge 64, 3) := by decide +kernel
theorem d_X6_finish_129 : decode mX6_finish.2.2.1 129 = .ok (.aload_n 0, 1) := by decide +kernel
theorem d_X6_finish_130 : decode mX6_finish.2.2.1 130 = .ok (.iload_n 1, 1) := by decide +kernel
theorem d_X6_finish_131 : decode mX6_finish.2.2.1 131 = .ok (.aload_n 0, 1) := by decide +kernel
theorem d_X6_finish_132 : decode mX6_finish.2.2.1 132 = .ok (.getfield 46, 3) := by decide +kernel
theorem d_X6_finish_135 : decode mX6_finish.2.2.1 135 = .ok (.getfield 135, 3) := by decide +kernel
theorem f_6_135 : e_fld 6 135 3 0 12 0 false := ⟨RX3, TX3, 0, rfl, rfl, by decide, rfl, rfl, rfl, iX3, tblG_in (inT1 (List.mem_of_getElem? (i := 161) rfl)) rfl, tyX3_ok, nmX3⟩
theorem d_X6_finish_138 : decode mX6_finish.2.2.1 138 = .ok (.imul, 1) := by decide +kernel
theorem d_X6_finish_139 : decode mX6_finish.2.2.1 139 = .ok (.aload_n 0, 1) := by decide +kernel
theorem d_X6_finish_140 : decode mX6_finish.2.2.1 140 = .ok (.getfield 38, 3) := by decide +kernel
theorem d_X6_finish_143 : decode mX6_finish.2.2.1 143 = .ok (.invokevirtual 138, 3) := by decide +kernel
def mX1_sippedByParts : MD := (1, yX1_sippedByParts, cX1_sippedByParts, 3, some .int)
theorem sel_X1_sippedByParts : Cond.instanceMethod mX1_sippedByParts.2.1 ∈ tblG ∧ Cond.selects mX1_sippedByParts.2.1.cls mX1_sippedByParts.2.1 mX1_sippedByParts.2.1 ∈ tblG := ⟨tblG_in (inT5 (List.mem_of_getElem? (i := 158) rfl)) rfl, tblG_in (inT5 (List.mem_of_getElem? (i := 159) rfl)) rfl⟩
theorem s_6_138 : e_siteV 6 138 mX1_sippedByParts 1 := ⟨tblG_in (inT5 (List.mem_of_getElem? (i := 157) rfl)) rfl, sel_X1_sippedByParts.1, sel_X1_sippedByParts.2, rfl⟩
theorem ok_X1_sippedByParts : e_m mX1_sippedByParts 0 := ⟨tblG_in (inT5 (List.mem_of_getElem? (i := 160) rfl)) rfl, by decide, rfl, ini_1, by decide +kernel, by decide⟩
theorem d_X1_sippedByParts_0 : decode mX1_sippedByParts.2.2.1 0 = .ok (.iconst 0, 1) := by decide +kernel
theorem d_X1_sippedByParts_1 : decode mX1_sippedByParts.2.2.1 1 = .ok (.istore_n 1, 1) := by decide +kernel
theorem d_X1_sippedByParts_2 : decode mX1_sippedByParts.2.2.1 2 = .ok (.iconst 0, 1) := by decide +kernel
theorem d_X1_sippedByParts_3 : decode mX1_sippedByParts.2.2.1 3 = .ok (.istore_n 2, 1) := by decide +kernel
theorem d_X1_sippedByParts_4 : decode mX1_sippedByParts.2.2.1 4 = .ok (.iload_n 2, 1) := by decide +kernel
theorem d_X1_sippedByParts_5 : decode mX1_sippedByParts.2.2.1 5 = .ok (.aload_n 0, 1) := by decide +kernel
theorem d_X1_sippedByParts_6 : decode mX1_sippedByParts.2.2.1 6 = .ok (.getfield 41, 3) := by decide +kernel
theorem d_X1_sippedByParts_9 : decode mX1_sippedByParts.2.2.1 9 = .ok (.getfield 91, 3) := by decide +kernel
theorem f_1_91 : e_fld 1 91 3 4 12 2 true := ⟨RX3, TX3, 4, rfl, rfl, by decide, rfl, rfl, rfl, iX3, tblG_in (inT1 (List.mem_of_getElem? (i := 176) rfl)) rfl, tyX3_ok, nmX3⟩
theorem d_X1_sippedByParts_12 : decode mX1_sippedByParts.2.2.1 12 = .ok (.iconst 0, 1) := by decide +kernel
theorem d_X1_sippedByParts_13 : decode mX1_sippedByParts.2.2.1 13 = .ok (.iaload, 1) := by decide +kernel
theorem d_X1_sippedByParts_14 : decode mX1_sippedByParts.2.2.1 14 = .ok (.iconst 4, 1) := by decide +kernel
theorem d_X1_sippedByParts_15 : decode mX1_sippedByParts.2.2.1 15 = .ok (.imul, 1) := by decide +kernel
theorem d_X1_sippedByParts_16 : decode mX1_sippedByParts.2.2.1 16 = .ok (.if_icmp .ge 28, 3) := by decide +kernel
theorem d_X1_sippedByParts_44 : decode mX1_sippedByParts.2.2.1 44 = .ok (.iload_n 1, 1) := by decide +kernel
theorem d_X1_sippedByParts_45 : decode mX1_sippedByParts.2.2.1 45 = .ok (.ireturn, 1) := by decide +kernel
theorem d_X6_finish_146 : decode mX6_finish.2.2.1 146 = .ok (.iadd, 1) := by decide +kernel
theorem d_X6_finish_147 : decode mX6_finish.2.2.1 147 = .ok (.putfield 142, 3) := by decide +kernel
theorem f_6_142 : e_fld 6 142 6 10 18 0 false := ⟨RX6, TX6, 10, rfl, rfl, by decide, rfl, rfl, rfl, iX6, tblG_in (inT2 (List.mem_of_getElem? (i := 113) rfl)) rfl, tyX6_ok, nmX6⟩
theorem d_X6_finish_150 : decode mX6_finish.2.2.1 150 = .ok (.return_, 1) := by decide +kernel
theorem d_X6_go_107 : decode mX6_go.2.2.1 107 = .ok (.return_, 1) := by decide +kernel
theorem d_X11_run_24 : decode mX11_run.2.2.1 24 = .ok (.aload_n 0, 1) := by decide +kernel
theorem d_X11_run_25 : decode mX11_run.2.2.1 25 = .ok (.getfield 56, 3) := by decide +kernel
theorem d_X11_run_28 : decode mX11_run.2.2.1 28 = .ok (.invokevirtual 148, 3) := by decide +kernel
def mX9_clear : MD := (9, yX9_clear, cX9_clear, 1, none)
theorem sel_X9_clear : Cond.instanceMethod mX9_clear.2.1 ∈ tblG ∧ Cond.selects mX9_clear.2.1.cls mX9_clear.2.1 mX9_clear.2.1 ∈ tblG := ⟨tblG_in (inT5 (List.mem_of_getElem? (i := 162) rfl)) rfl, tblG_in (inT5 (List.mem_of_getElem? (i := 163) rfl)) rfl⟩
theorem s_11_148 : e_siteV 11 148 mX9_clear 9 := ⟨tblG_in (inT5 (List.mem_of_getElem? (i := 161) rfl)) rfl, sel_X9_clear.1, sel_X9_clear.2, rfl⟩
theorem ok_X9_clear : e_m mX9_clear 0 := ⟨tblG_in (inT5 (List.mem_of_getElem? (i := 164) rfl)) rfl, by decide, rfl, ini_9, by decide +kernel, by decide⟩
theorem d_X9_clear_0 : decode mX9_clear.2.2.1 0 = .ok (.aload_n 0, 1) := by decide +kernel
theorem d_X9_clear_1 : decode mX9_clear.2.2.1 1 = .ok (.iconst (-1), 1) := by decide +kernel
theorem d_X9_clear_2 : decode mX9_clear.2.2.1 2 = .ok (.putfield 19, 3) := by decide +kernel
theorem d_X9_clear_5 : decode mX9_clear.2.2.1 5 = .ok (.return_, 1) := by decide +kernel
theorem d_X11_run_31 : decode mX11_run.2.2.1 31 = .ok (.aload_n 0, 1) := by decide +kernel
theorem d_X11_run_32 : decode mX11_run.2.2.1 32 = .ok (.iconst 1, 1) := by decide +kernel
theorem d_X11_run_33 : decode mX11_run.2.2.1 33 = .ok (.putfield 109, 3) := by decide +kernel
theorem d_X11_run_36 : decode mX11_run.2.2.1 36 = .ok (.aload_n 0, 1) := by decide +kernel
theorem d_X11_run_37 : decode mX11_run.2.2.1 37 = .ok (.getfield 46, 3) := by decide +kernel
theorem d_X11_run_40 : decode mX11_run.2.2.1 40 = .ok (.getfield 149, 3) := by decide +kernel
theorem f_11_149 : e_fld 11 149 6 14 18 0 false := ⟨RX6, TX6, 14, rfl, rfl, by decide, rfl, rfl, rfl, iX6, tblG_in (inT2 (List.mem_of_getElem? (i := 122) rfl)) rfl, tyX6_ok, nmX6⟩
theorem d_X11_run_43 : decode mX11_run.2.2.1 43 = .ok (.ireturn, 1) := by decide +kernel
def mX12_run : MD := (12, yX12_run, cX12_run, 4, some .int)
theorem sel_X12_run : Cond.instanceMethod mX12_run.2.1 ∈ tblG ∧ Cond.selects mX12_run.2.1.cls mX12_run.2.1 mX12_run.2.1 ∈ tblG := ⟨tblG_in (inT9 (List.mem_of_getElem? (i := 47) rfl)) rfl, tblG_in (inT9 (List.mem_of_getElem? (i := 48) rfl)) rfl⟩
theorem s_13_50 : e_siteV 13 50 mX12_run 12 := ⟨tblG_in (inT9 (List.mem_of_getElem? (i := 46) rfl)) rfl, sel_X12_run.1, sel_X12_run.2, rfl⟩
theorem ok_X12_run : e_m mX12_run 1 := ⟨tblG_in (inT9 (List.mem_of_getElem? (i := 49) rfl)) rfl, by decide, rfl, ini_12, by decide +kernel, by decide⟩
theorem d_X12_run_0 : decode mX12_run.2.2.1 0 = .ok (.iload_n 1, 1) := by decide +kernel
theorem d_X12_run_1 : decode mX12_run.2.2.1 1 = .ok (.iconst (-1), 1) := by decide +kernel
theorem d_X12_run_2 : decode mX12_run.2.2.1 2 = .ok (.if_icmp .ge 6, 3) := by decide +kernel
theorem d_X12_run_8 : decode mX12_run.2.2.1 8 = .ok (.iconst 0, 1) := by decide +kernel
theorem d_X12_run_9 : decode mX12_run.2.2.1 9 = .ok (.istore_n 2, 1) := by decide +kernel
theorem d_X12_run_10 : decode mX12_run.2.2.1 10 = .ok (.iload_n 2, 1) := by decide +kernel
theorem d_X12_run_11 : decode mX12_run.2.2.1 11 = .ok (.iconst 3, 1) := by decide +kernel
theorem d_X12_run_12 : decode mX12_run.2.2.1 12 = .ok (.if_icmp .ge 21, 3) := by decide +kernel
theorem d_X12_run_15 : decode mX12_run.2.2.1 15 = .ok (.aload_n 0, 1) := by decide +kernel
theorem d_X12_run_16 : decode mX12_run.2.2.1 16 = .ok (.getfield 171, 3) := by decide +kernel
theorem d_X12_run_19 : decode mX12_run.2.2.1 19 = .ok (.iload_n 2, 1) := by decide +kernel
theorem d_X12_run_20 : decode mX12_run.2.2.1 20 = .ok (.aload_n 0, 1) := by decide +kernel
theorem d_X12_run_21 : decode mX12_run.2.2.1 21 = .ok (.getfield 168, 3) := by decide +kernel
theorem d_X12_run_24 : decode mX12_run.2.2.1 24 = .ok (.iload_n 2, 1) := by decide +kernel
theorem d_X12_run_25 : decode mX12_run.2.2.1 25 = .ok (.iaload, 1) := by decide +kernel
theorem d_X12_run_26 : decode mX12_run.2.2.1 26 = .ok (.iastore, 1) := by decide +kernel
theorem d_X12_run_27 : decode mX12_run.2.2.1 27 = .ok (.iinc 2 1, 3) := by decide +kernel
theorem d_X12_run_30 : decode mX12_run.2.2.1 30 = .ok (.goto (-20), 3) := by decide +kernel
theorem d_X12_run_33 : decode mX12_run.2.2.1 33 = .ok (.aload_n 0, 1) := by decide +kernel
theorem d_X12_run_34 : decode mX12_run.2.2.1 34 = .ok (.iconst 1, 1) := by decide +kernel
theorem d_X12_run_35 : decode mX12_run.2.2.1 35 = .ok (.putfield 225, 3) := by decide +kernel
theorem d_X12_run_38 : decode mX12_run.2.2.1 38 = .ok (.aload_n 0, 1) := by decide +kernel
theorem d_X12_run_39 : decode mX12_run.2.2.1 39 = .ok (.iload_n 1, 1) := by decide +kernel
theorem d_X12_run_40 : decode mX12_run.2.2.1 40 = .ok (.i2l, 1) := by decide +kernel
theorem d_X12_run_41 : decode mX12_run.2.2.1 41 = .ok (.invokevirtual 637, 3) := by decide +kernel
def mX12_runs : MD := (12, yX12_runs, cX12_runs, 6, some .int)
theorem sel_X12_runs : Cond.instanceMethod mX12_runs.2.1 ∈ tblG ∧ Cond.selects mX12_runs.2.1.cls mX12_runs.2.1 mX12_runs.2.1 ∈ tblG := ⟨tblG_in (inT9 (List.mem_of_getElem? (i := 52) rfl)) rfl, tblG_in (inP7 (q := (mX12_runs.2.1, 121)) (List.mem_of_getElem? (i := 10) rfl)) rfl⟩
theorem s_12_637 : e_siteV 12 637 mX12_runs 12 := ⟨tblG_in (inT9 (List.mem_of_getElem? (i := 50) rfl)) rfl, sel_X12_runs.1, sel_X12_runs.2, rfl⟩
theorem ok_X12_runs : e_m mX12_runs 1 := ⟨tblG_in (inT9 (List.mem_of_getElem? (i := 53) rfl)) rfl, by decide, rfl, ini_12, by decide +kernel, by decide⟩
theorem d_X12_runs_0 : decode mX12_runs.2.2.1 0 = .ok (.iconst 0, 1) := by decide +kernel
theorem d_X12_runs_1 : decode mX12_runs.2.2.1 1 = .ok (.istore_n 3, 1) := by decide +kernel
theorem d_X12_runs_2 : decode mX12_runs.2.2.1 2 = .ok (.iload_n 3, 1) := by decide +kernel
theorem d_X12_runs_3 : decode mX12_runs.2.2.1 3 = .ok (.bipush 6, 2) := by decide +kernel
theorem d_X12_runs_5 : decode mX12_runs.2.2.1 5 = .ok (.if_icmp .ge 16, 3) := by decide +kernel
theorem d_X12_runs_8 : decode mX12_runs.2.2.1 8 = .ok (.aload_n 0, 1) := by decide +kernel
theorem d_X12_runs_9 : decode mX12_runs.2.2.1 9 = .ok (.getfield 174, 3) := by decide +kernel
theorem d_X12_runs_12 : decode mX12_runs.2.2.1 12 = .ok (.iload_n 3, 1) := by decide +kernel
theorem d_X12_runs_13 : decode mX12_runs.2.2.1 13 = .ok (.iconst 0, 1) := by decide +kernel
theorem d_X12_runs_14 : decode mX12_runs.2.2.1 14 = .ok (.iastore, 1) := by decide +kernel
theorem d_X12_runs_15 : decode mX12_runs.2.2.1 15 = .ok (.iinc 3 1, 3) := by decide +kernel
theorem d_X12_runs_18 : decode mX12_runs.2.2.1 18 = .ok (.goto (-16), 3) := by decide +kernel
theorem d_X12_runs_21 : decode mX12_runs.2.2.1 21 = .ok (.iconst 0, 1) := by decide +kernel
theorem d_X12_runs_22 : decode mX12_runs.2.2.1 22 = .ok (.istore_n 3, 1) := by decide +kernel
theorem d_X12_runs_23 : decode mX12_runs.2.2.1 23 = .ok (.iload_n 3, 1) := by decide +kernel
theorem d_X12_runs_24 : decode mX12_runs.2.2.1 24 = .ok (.bipush 6, 2) := by decide +kernel
theorem d_X12_runs_26 : decode mX12_runs.2.2.1 26 = .ok (.if_icmp .ge 37, 3) := by decide +kernel
theorem d_X12_runs_29 : decode mX12_runs.2.2.1 29 = .ok (.aload_n 0, 1) := by decide +kernel
theorem d_X12_runs_30 : decode mX12_runs.2.2.1 30 = .ok (.getfield 177, 3) := by decide +kernel
theorem d_X12_runs_33 : decode mX12_runs.2.2.1 33 = .ok (.iload_n 3, 1) := by decide +kernel
theorem d_X12_runs_34 : decode mX12_runs.2.2.1 34 = .ok (.iconst 0, 1) := by decide +kernel
theorem d_X12_runs_35 : decode mX12_runs.2.2.1 35 = .ok (.bastore, 1) := by decide +kernel
theorem d_X12_runs_36 : decode mX12_runs.2.2.1 36 = .ok (.aload_n 0, 1) := by decide +kernel
theorem d_X12_runs_37 : decode mX12_runs.2.2.1 37 = .ok (.getfield 180, 3) := by decide +kernel
theorem d_X12_runs_40 : decode mX12_runs.2.2.1 40 = .ok (.iload_n 3, 1) := by decide +kernel
theorem d_X12_runs_41 : decode mX12_runs.2.2.1 41 = .ok (.iconst (-1), 1) := by decide +kernel
theorem d_X12_runs_42 : decode mX12_runs.2.2.1 42 = .ok (.iastore, 1) := by decide +kernel
theorem d_X12_runs_43 : decode mX12_runs.2.2.1 43 = .ok (.aload_n 0, 1) := by decide +kernel
theorem d_X12_runs_44 : decode mX12_runs.2.2.1 44 = .ok (.getfield 183, 3) := by decide +kernel
theorem d_X12_runs_47 : decode mX12_runs.2.2.1 47 = .ok (.iload_n 3, 1) := by decide +kernel
theorem d_X12_runs_48 : decode mX12_runs.2.2.1 48 = .ok (.iconst 0, 1) := by decide +kernel
theorem d_X12_runs_49 : decode mX12_runs.2.2.1 49 = .ok (.iastore, 1) := by decide +kernel
theorem d_X12_runs_50 : decode mX12_runs.2.2.1 50 = .ok (.aload_n 0, 1) := by decide +kernel
theorem d_X12_runs_51 : decode mX12_runs.2.2.1 51 = .ok (.getfield 186, 3) := by decide +kernel
theorem d_X12_runs_54 : decode mX12_runs.2.2.1 54 = .ok (.iload_n 3, 1) := by decide +kernel
theorem d_X12_runs_55 : decode mX12_runs.2.2.1 55 = .ok (.iconst (-1), 1) := by decide +kernel
theorem d_X12_runs_56 : decode mX12_runs.2.2.1 56 = .ok (.iastore, 1) := by decide +kernel
theorem d_X12_runs_57 : decode mX12_runs.2.2.1 57 = .ok (.iinc 3 1, 3) := by decide +kernel
theorem d_X12_runs_60 : decode mX12_runs.2.2.1 60 = .ok (.goto (-37), 3) := by decide +kernel
theorem d_X12_runs_63 : decode mX12_runs.2.2.1 63 = .ok (.iconst 0, 1) := by decide +kernel
theorem d_X12_runs_64 : decode mX12_runs.2.2.1 64 = .ok (.istore_n 3, 1) := by decide +kernel
theorem d_X12_runs_65 : decode mX12_runs.2.2.1 65 = .ok (.iload_n 3, 1) := by decide +kernel
theorem d_X12_runs_66 : decode mX12_runs.2.2.1 66 = .ok (.bipush 8, 2) := by decide +kernel
theorem d_X12_runs_68 : decode mX12_runs.2.2.1 68 = .ok (.if_icmp .ge 16, 3) := by decide +kernel
theorem d_X12_runs_71 : decode mX12_runs.2.2.1 71 = .ok (.aload_n 0, 1) := by decide +kernel
theorem d_X12_runs_72 : decode mX12_runs.2.2.1 72 = .ok (.getfield 189, 3) := by decide +kernel
theorem d_X12_runs_75 : decode mX12_runs.2.2.1 75 = .ok (.iload_n 3, 1) := by decide +kernel
theorem d_X12_runs_76 : decode mX12_runs.2.2.1 76 = .ok (.iconst (-1), 1) := by decide +kernel
theorem d_X12_runs_77 : decode mX12_runs.2.2.1 77 = .ok (.iastore, 1) := by decide +kernel
theorem d_X12_runs_78 : decode mX12_runs.2.2.1 78 = .ok (.iinc 3 1, 3) := by decide +kernel
theorem d_X12_runs_81 : decode mX12_runs.2.2.1 81 = .ok (.goto (-16), 3) := by decide +kernel
theorem d_X12_runs_84 : decode mX12_runs.2.2.1 84 = .ok (.iconst 0, 1) := by decide +kernel
theorem d_X12_runs_85 : decode mX12_runs.2.2.1 85 = .ok (.istore_n 3, 1) := by decide +kernel
theorem d_X12_runs_86 : decode mX12_runs.2.2.1 86 = .ok (.iload_n 3, 1) := by decide +kernel
theorem d_X12_runs_87 : decode mX12_runs.2.2.1 87 = .ok (.bipush 24, 2) := by decide +kernel
theorem d_X12_runs_89 : decode mX12_runs.2.2.1 89 = .ok (.if_icmp .ge 16, 3) := by decide +kernel
theorem d_X12_runs_92 : decode mX12_runs.2.2.1 92 = .ok (.aload_n 0, 1) := by decide +kernel
theorem d_X12_runs_93 : decode mX12_runs.2.2.1 93 = .ok (.getfield 222, 3) := by decide +kernel
theorem d_X12_runs_96 : decode mX12_runs.2.2.1 96 = .ok (.iload_n 3, 1) := by decide +kernel
theorem d_X12_runs_97 : decode mX12_runs.2.2.1 97 = .ok (.iconst 0, 1) := by decide +kernel
theorem d_X12_runs_98 : decode mX12_runs.2.2.1 98 = .ok (.iastore, 1) := by decide +kernel
theorem d_X12_runs_99 : decode mX12_runs.2.2.1 99 = .ok (.iinc 3 1, 3) := by decide +kernel
theorem d_X12_runs_102 : decode mX12_runs.2.2.1 102 = .ok (.goto (-16), 3) := by decide +kernel
theorem d_X12_runs_105 : decode mX12_runs.2.2.1 105 = .ok (.aload_n 0, 1) := by decide +kernel
theorem d_X12_runs_106 : decode mX12_runs.2.2.1 106 = .ok (.iconst 0, 1) := by decide +kernel
theorem d_X12_runs_107 : decode mX12_runs.2.2.1 107 = .ok (.putfield 201, 3) := by decide +kernel
theorem d_X12_runs_110 : decode mX12_runs.2.2.1 110 = .ok (.aload_n 0, 1) := by decide +kernel
theorem d_X12_runs_111 : decode mX12_runs.2.2.1 111 = .ok (.lconst 0, 1) := by decide +kernel
theorem d_X12_runs_112 : decode mX12_runs.2.2.1 112 = .ok (.putfield 204, 3) := by decide +kernel
theorem d_X12_runs_115 : decode mX12_runs.2.2.1 115 = .ok (.aload_n 0, 1) := by decide +kernel
theorem d_X12_runs_116 : decode mX12_runs.2.2.1 116 = .ok (.lload_n 1, 1) := by decide +kernel
theorem d_X12_runs_117 : decode mX12_runs.2.2.1 117 = .ok (.putfield 207, 3) := by decide +kernel
theorem d_X12_runs_120 : decode mX12_runs.2.2.1 120 = .ok (.aload_n 0, 1) := by decide +kernel
theorem d_X12_runs_121 : decode mX12_runs.2.2.1 121 = .ok (.iconst 0, 1) := by decide +kernel
theorem d_X12_runs_122 : decode mX12_runs.2.2.1 122 = .ok (.putfield 210, 3) := by decide +kernel
theorem d_X12_runs_125 : decode mX12_runs.2.2.1 125 = .ok (.aload_n 0, 1) := by decide +kernel
theorem d_X12_runs_126 : decode mX12_runs.2.2.1 126 = .ok (.iconst 0, 1) := by decide +kernel
theorem d_X12_runs_127 : decode mX12_runs.2.2.1 127 = .ok (.putfield 213, 3) := by decide +kernel
theorem d_X12_runs_130 : decode mX12_runs.2.2.1 130 = .ok (.aload_n 0, 1) := by decide +kernel
theorem d_X12_runs_131 : decode mX12_runs.2.2.1 131 = .ok (.iconst 0, 1) := by decide +kernel
theorem d_X12_runs_132 : decode mX12_runs.2.2.1 132 = .ok (.putfield 216, 3) := by decide +kernel
theorem d_X12_runs_135 : decode mX12_runs.2.2.1 135 = .ok (.aload_n 0, 1) := by decide +kernel
theorem d_X12_runs_136 : decode mX12_runs.2.2.1 136 = .ok (.iconst 0, 1) := by decide +kernel
theorem d_X12_runs_137 : decode mX12_runs.2.2.1 137 = .ok (.putfield 219, 3) := by decide +kernel
theorem d_X12_runs_140 : decode mX12_runs.2.2.1 140 = .ok (.aload_n 0, 1) := by decide +kernel
theorem d_X12_runs_141 : decode mX12_runs.2.2.1 141 = .ok (.iconst (-1), 1) := by decide +kernel
theorem d_X12_runs_142 : decode mX12_runs.2.2.1 142 = .ok (.putfield 267, 3) := by decide +kernel
theorem d_X12_runs_145 : decode mX12_runs.2.2.1 145 = .ok (.aload_n 0, 1) := by decide +kernel
theorem d_X12_runs_146 : decode mX12_runs.2.2.1 146 = .ok (.iconst (-1), 1) := by decide +kernel
theorem d_X12_runs_147 : decode mX12_runs.2.2.1 147 = .ok (.putfield 195, 3) := by decide +kernel
theorem d_X12_runs_150 : decode mX12_runs.2.2.1 150 = .ok (.aload_n 0, 1) := by decide +kernel
theorem d_X12_runs_151 : decode mX12_runs.2.2.1 151 = .ok (.iconst 0, 1) := by decide +kernel
theorem d_X12_runs_152 : decode mX12_runs.2.2.1 152 = .ok (.putfield 240, 3) := by decide +kernel
theorem d_X12_runs_155 : decode mX12_runs.2.2.1 155 = .ok (.aload_n 0, 1) := by decide +kernel
theorem d_X12_runs_156 : decode mX12_runs.2.2.1 156 = .ok (.iconst 0, 1) := by decide +kernel
theorem d_X12_runs_157 : decode mX12_runs.2.2.1 157 = .ok (.putfield 252, 3) := by decide +kernel
theorem d_X12_runs_160 : decode mX12_runs.2.2.1 160 = .ok (.iconst 0, 1) := by decide +kernel
theorem d_X12_runs_161 : decode mX12_runs.2.2.1 161 = .ok (.istore_n 3, 1) := by decide +kernel
theorem d_X12_runs_162 : decode mX12_runs.2.2.1 162 = .ok (.iload_n 3, 1) := by decide +kernel
theorem d_X12_runs_163 : decode mX12_runs.2.2.1 163 = .ok (.aload_n 0, 1) := by decide +kernel
theorem d_X12_runs_164 : decode mX12_runs.2.2.1 164 = .ok (.getfield 94, 3) := by decide +kernel
theorem d_X12_runs_167 : decode mX12_runs.2.2.1 167 = .ok (.aload_n 0, 1) := by decide +kernel
theorem d_X12_runs_168 : decode mX12_runs.2.2.1 168 = .ok (.getfield 48, 3) := by decide +kernel
theorem d_X12_runs_171 : decode mX12_runs.2.2.1 171 = .ok (.iaload, 1) := by decide +kernel
theorem d_X12_runs_172 : decode mX12_runs.2.2.1 172 = .ok (.if_icmp .ge 145, 3) := by decide +kernel
theorem d_X12_runs_317 : decode mX12_runs.2.2.1 317 = .ok (.aload_n 0, 1) := by decide +kernel
theorem d_X12_runs_318 : decode mX12_runs.2.2.1 318 = .ok (.getfield 219, 3) := by decide +kernel
theorem d_X12_runs_321 : decode mX12_runs.2.2.1 321 = .ok (.ifCond .le 8, 3) := by decide +kernel
theorem d_X12_runs_329 : decode mX12_runs.2.2.1 329 = .ok (.iconst 1, 1) := by decide +kernel
theorem d_X12_runs_330 : decode mX12_runs.2.2.1 330 = .ok (.istore 4, 2) := by decide +kernel
theorem d_X12_runs_332 : decode mX12_runs.2.2.1 332 = .ok (.iload 4, 2) := by decide +kernel
theorem d_X12_runs_334 : decode mX12_runs.2.2.1 334 = .ok (.ifCond .eq 75, 3) := by decide +kernel
theorem d_X12_runs_337 : decode mX12_runs.2.2.1 337 = .ok (.iconst 0, 1) := by decide +kernel
theorem d_X12_runs_338 : decode mX12_runs.2.2.1 338 = .ok (.istore 4, 2) := by decide +kernel
theorem d_X12_runs_340 : decode mX12_runs.2.2.1 340 = .ok (.iconst 0, 1) := by decide +kernel
theorem d_X12_runs_341 : decode mX12_runs.2.2.1 341 = .ok (.istore 5, 2) := by decide +kernel
theorem d_X12_runs_343 : decode mX12_runs.2.2.1 343 = .ok (.iload 5, 2) := by decide +kernel
theorem d_X12_runs_345 : decode mX12_runs.2.2.1 345 = .ok (.aload_n 0, 1) := by decide +kernel
theorem d_X12_runs_346 : decode mX12_runs.2.2.1 346 = .ok (.getfield 63, 3) := by decide +kernel
theorem d_X12_runs_349 : decode mX12_runs.2.2.1 349 = .ok (.aload_n 0, 1) := by decide +kernel
theorem d_X12_runs_350 : decode mX12_runs.2.2.1 350 = .ok (.getfield 48, 3) := by decide +kernel
theorem d_X12_runs_353 : decode mX12_runs.2.2.1 353 = .ok (.iaload, 1) := by decide +kernel
theorem d_X12_runs_354 : decode mX12_runs.2.2.1 354 = .ok (.if_icmp .ge 41, 3) := by decide +kernel
theorem d_X12_runs_395 : decode mX12_runs.2.2.1 395 = .ok (.iload 4, 2) := by decide +kernel
theorem d_X12_runs_397 : decode mX12_runs.2.2.1 397 = .ok (.ifCond .eq (-65), 3) := by decide +kernel
theorem d_X12_runs_409 : decode mX12_runs.2.2.1 409 = .ok (.iconst 0, 1) := by decide +kernel
theorem d_X12_runs_410 : decode mX12_runs.2.2.1 410 = .ok (.ireturn, 1) := by decide +kernel
theorem d_X12_run_44 : decode mX12_run.2.2.1 44 = .ok (.istore_n 2, 1) := by decide +kernel
theorem d_X12_run_45 : decode mX12_run.2.2.1 45 = .ok (.aload_n 0, 1) := by decide +kernel
theorem d_X12_run_46 : decode mX12_run.2.2.1 46 = .ok (.iconst 0, 1) := by decide +kernel
theorem d_X12_run_47 : decode mX12_run.2.2.1 47 = .ok (.putfield 225, 3) := by decide +kernel
theorem d_X12_run_50 : decode mX12_run.2.2.1 50 = .ok (.aload_n 0, 1) := by decide +kernel
theorem d_X12_run_51 : decode mX12_run.2.2.1 51 = .ok (.iconst 1, 1) := by decide +kernel
theorem d_X12_run_52 : decode mX12_run.2.2.1 52 = .ok (.putfield 270, 3) := by decide +kernel
theorem d_X12_run_55 : decode mX12_run.2.2.1 55 = .ok (.aload_n 0, 1) := by decide +kernel
theorem d_X12_run_56 : decode mX12_run.2.2.1 56 = .ok (.aload_n 0, 1) := by decide +kernel
theorem d_X12_run_57 : decode mX12_run.2.2.1 57 = .ok (.getfield 201, 3) := by decide +kernel
theorem d_X12_run_60 : decode mX12_run.2.2.1 60 = .ok (.putfield 273, 3) := by decide +kernel
theorem d_X12_run_63 : decode mX12_run.2.2.1 63 = .ok (.aload_n 0, 1) := by decide +kernel
theorem d_X12_run_64 : decode mX12_run.2.2.1 64 = .ok (.aload_n 0, 1) := by decide +kernel
theorem d_X12_run_65 : decode mX12_run.2.2.1 65 = .ok (.getfield 204, 3) := by decide +kernel
theorem d_X12_run_68 : decode mX12_run.2.2.1 68 = .ok (.putfield 276, 3) := by decide +kernel
theorem d_X12_run_71 : decode mX12_run.2.2.1 71 = .ok (.aload_n 0, 1) := by decide +kernel
theorem d_X12_run_72 : decode mX12_run.2.2.1 72 = .ok (.aload_n 0, 1) := by decide +kernel
theorem d_X12_run_73 : decode mX12_run.2.2.1 73 = .ok (.getfield 210, 3) := by decide +kernel
theorem d_X12_run_76 : decode mX12_run.2.2.1 76 = .ok (.putfield 279, 3) := by decide +kernel
theorem d_X12_run_79 : decode mX12_run.2.2.1 79 = .ok (.aload_n 0, 1) := by decide +kernel
theorem d_X12_run_80 : decode mX12_run.2.2.1 80 = .ok (.aload_n 0, 1) := by decide +kernel
theorem d_X12_run_81 : decode mX12_run.2.2.1 81 = .ok (.getfield 213, 3) := by decide +kernel
theorem d_X12_run_84 : decode mX12_run.2.2.1 84 = .ok (.putfield 282, 3) := by decide +kernel
theorem d_X12_run_87 : decode mX12_run.2.2.1 87 = .ok (.aload_n 0, 1) := by decide +kernel
theorem d_X12_run_88 : decode mX12_run.2.2.1 88 = .ok (.aload_n 0, 1) := by decide +kernel
theorem d_X12_run_89 : decode mX12_run.2.2.1 89 = .ok (.getfield 216, 3) := by decide +kernel
theorem d_X12_run_92 : decode mX12_run.2.2.1 92 = .ok (.putfield 285, 3) := by decide +kernel
theorem d_X12_run_95 : decode mX12_run.2.2.1 95 = .ok (.aload_n 0, 1) := by decide +kernel
theorem d_X12_run_96 : decode mX12_run.2.2.1 96 = .ok (.aload_n 0, 1) := by decide +kernel
theorem d_X12_run_97 : decode mX12_run.2.2.1 97 = .ok (.getfield 267, 3) := by decide +kernel
theorem d_X12_run_100 : decode mX12_run.2.2.1 100 = .ok (.putfield 288, 3) := by decide +kernel
theorem d_X12_run_103 : decode mX12_run.2.2.1 103 = .ok (.aload_n 0, 1) := by decide +kernel
theorem d_X12_run_104 : decode mX12_run.2.2.1 104 = .ok (.aload_n 0, 1) := by decide +kernel
theorem d_X12_run_105 : decode mX12_run.2.2.1 105 = .ok (.getfield 240, 3) := by decide +kernel
theorem d_X12_run_108 : decode mX12_run.2.2.1 108 = .ok (.putfield 300, 3) := by decide +kernel
theorem d_X12_run_111 : decode mX12_run.2.2.1 111 = .ok (.aload_n 0, 1) := by decide +kernel
theorem d_X12_run_112 : decode mX12_run.2.2.1 112 = .ok (.aload_n 0, 1) := by decide +kernel
theorem d_X12_run_113 : decode mX12_run.2.2.1 113 = .ok (.getfield 252, 3) := by decide +kernel
theorem d_X12_run_116 : decode mX12_run.2.2.1 116 = .ok (.putfield 303, 3) := by decide +kernel
theorem d_X12_run_119 : decode mX12_run.2.2.1 119 = .ok (.iconst 0, 1) := by decide +kernel
theorem d_X12_run_120 : decode mX12_run.2.2.1 120 = .ok (.istore_n 3, 1) := by decide +kernel
theorem d_X12_run_121 : decode mX12_run.2.2.1 121 = .ok (.iload_n 3, 1) := by decide +kernel
theorem d_X12_run_122 : decode mX12_run.2.2.1 122 = .ok (.bipush 6, 2) := by decide +kernel
theorem d_X12_run_124 : decode mX12_run.2.2.1 124 = .ok (.if_icmp .ge 21, 3) := by decide +kernel
theorem d_X12_run_127 : decode mX12_run.2.2.1 127 = .ok (.aload_n 0, 1) := by decide +kernel
theorem d_X12_run_128 : decode mX12_run.2.2.1 128 = .ok (.getfield 291, 3) := by decide +kernel
theorem d_X12_run_131 : decode mX12_run.2.2.1 131 = .ok (.iload_n 3, 1) := by decide +kernel
theorem d_X12_run_132 : decode mX12_run.2.2.1 132 = .ok (.aload_n 0, 1) := by decide +kernel
theorem d_X12_run_133 : decode mX12_run.2.2.1 133 = .ok (.getfield 174, 3) := by decide +kernel
theorem d_X12_run_136 : decode mX12_run.2.2.1 136 = .ok (.iload_n 3, 1) := by decide +kernel
theorem d_X12_run_137 : decode mX12_run.2.2.1 137 = .ok (.iaload, 1) := by decide +kernel
theorem d_X12_run_138 : decode mX12_run.2.2.1 138 = .ok (.iastore, 1) := by decide +kernel
theorem d_X12_run_139 : decode mX12_run.2.2.1 139 = .ok (.iinc 3 1, 3) := by decide +kernel
theorem d_X12_run_142 : decode mX12_run.2.2.1 142 = .ok (.goto (-21), 3) := by decide +kernel
theorem d_X12_run_145 : decode mX12_run.2.2.1 145 = .ok (.iconst 0, 1) := by decide +kernel
theorem d_X12_run_146 : decode mX12_run.2.2.1 146 = .ok (.istore_n 3, 1) := by decide +kernel
theorem d_X12_run_147 : decode mX12_run.2.2.1 147 = .ok (.iload_n 3, 1) := by decide +kernel
theorem d_X12_run_148 : decode mX12_run.2.2.1 148 = .ok (.bipush 24, 2) := by decide +kernel
theorem d_X12_run_150 : decode mX12_run.2.2.1 150 = .ok (.if_icmp .ge 21, 3) := by decide +kernel
theorem d_X12_run_153 : decode mX12_run.2.2.1 153 = .ok (.aload_n 0, 1) := by decide +kernel
theorem d_X12_run_154 : decode mX12_run.2.2.1 154 = .ok (.getfield 294, 3) := by decide +kernel
theorem d_X12_run_157 : decode mX12_run.2.2.1 157 = .ok (.iload_n 3, 1) := by decide +kernel
theorem d_X12_run_158 : decode mX12_run.2.2.1 158 = .ok (.aload_n 0, 1) := by decide +kernel
theorem d_X12_run_159 : decode mX12_run.2.2.1 159 = .ok (.getfield 222, 3) := by decide +kernel
theorem d_X12_run_162 : decode mX12_run.2.2.1 162 = .ok (.iload_n 3, 1) := by decide +kernel
theorem d_X12_run_163 : decode mX12_run.2.2.1 163 = .ok (.iaload, 1) := by decide +kernel
theorem d_X12_run_164 : decode mX12_run.2.2.1 164 = .ok (.iastore, 1) := by decide +kernel
theorem d_X12_run_165 : decode mX12_run.2.2.1 165 = .ok (.iinc 3 1, 3) := by decide +kernel
theorem d_X12_run_168 : decode mX12_run.2.2.1 168 = .ok (.goto (-21), 3) := by decide +kernel
theorem d_X12_run_171 : decode mX12_run.2.2.1 171 = .ok (.iconst 0, 1) := by decide +kernel
theorem d_X12_run_172 : decode mX12_run.2.2.1 172 = .ok (.istore_n 3, 1) := by decide +kernel
theorem d_X12_run_173 : decode mX12_run.2.2.1 173 = .ok (.iload_n 3, 1) := by decide +kernel
theorem d_X12_run_174 : decode mX12_run.2.2.1 174 = .ok (.bipush 6, 2) := by decide +kernel
theorem d_X12_run_176 : decode mX12_run.2.2.1 176 = .ok (.if_icmp .ge 46, 3) := by decide +kernel
theorem d_X12_run_179 : decode mX12_run.2.2.1 179 = .ok (.aload_n 0, 1) := by decide +kernel
theorem d_X12_run_180 : decode mX12_run.2.2.1 180 = .ok (.getfield 297, 3) := by decide +kernel
theorem d_X12_run_183 : decode mX12_run.2.2.1 183 = .ok (.iload_n 3, 1) := by decide +kernel
theorem d_X12_run_184 : decode mX12_run.2.2.1 184 = .ok (.aload_n 0, 1) := by decide +kernel
theorem d_X12_run_185 : decode mX12_run.2.2.1 185 = .ok (.getfield 177, 3) := by decide +kernel
theorem d_X12_run_188 : decode mX12_run.2.2.1 188 = .ok (.iload_n 3, 1) := by decide +kernel
theorem d_X12_run_189 : decode mX12_run.2.2.1 189 = .ok (.baload, 1) := by decide +kernel
theorem d_X12_run_190 : decode mX12_run.2.2.1 190 = .ok (.ifCond .ne 24, 3) := by decide +kernel
theorem d_X12_run_193 : decode mX12_run.2.2.1 193 = .ok (.aload_n 0, 1) := by decide +kernel
theorem d_X12_run_194 : decode mX12_run.2.2.1 194 = .ok (.getfield 183, 3) := by decide +kernel
theorem d_X12_run_197 : decode mX12_run.2.2.1 197 = .ok (.iload_n 3, 1) := by decide +kernel
theorem d_X12_run_198 : decode mX12_run.2.2.1 198 = .ok (.iaload, 1) := by decide +kernel
theorem d_X12_run_199 : decode mX12_run.2.2.1 199 = .ok (.ifCond .ne 15, 3) := by decide +kernel
theorem d_X12_run_202 : decode mX12_run.2.2.1 202 = .ok (.iload_n 3, 1) := by decide +kernel
theorem d_X12_run_203 : decode mX12_run.2.2.1 203 = .ok (.aload_n 0, 1) := by decide +kernel
theorem d_X12_run_204 : decode mX12_run.2.2.1 204 = .ok (.getfield 195, 3) := by decide +kernel
theorem d_X12_run_207 : decode mX12_run.2.2.1 207 = .ok (.if_icmp .eq 7, 3) := by decide +kernel
theorem d_X12_run_210 : decode mX12_run.2.2.1 210 = .ok (.iconst 1, 1) := by decide +kernel
theorem d_X12_run_211 : decode mX12_run.2.2.1 211 = .ok (.goto 4, 3) := by decide +kernel
theorem d_X12_run_215 : decode mX12_run.2.2.1 215 = .ok (.bastore, 1) := by decide +kernel
theorem d_X12_run_216 : decode mX12_run.2.2.1 216 = .ok (.iinc 3 1, 3) := by decide +kernel
theorem d_X12_run_219 : decode mX12_run.2.2.1 219 = .ok (.goto (-46), 3) := by decide +kernel
theorem d_X12_run_222 : decode mX12_run.2.2.1 222 = .ok (.iload_n 2, 1) := by decide +kernel
theorem d_X12_run_223 : decode mX12_run.2.2.1 223 = .ok (.ireturn, 1) := by decide +kernel
theorem d_X6_begin_91 : decode mX6_begin.2.2.1 91 = .ok (.iconst 1, 1) := by decide +kernel
theorem d_X6_begin_92 : decode mX6_begin.2.2.1 92 = .ok (.goto 4, 3) := by decide +kernel
theorem d_X11_run_5 : decode mX11_run.2.2.1 5 = .ok (.bipush (-2), 2) := by decide +kernel
theorem d_X11_run_7 : decode mX11_run.2.2.1 7 = .ok (.ireturn, 1) := by decide +kernel
theorem d_X12_run_5 : decode mX12_run.2.2.1 5 = .ok (.bipush (-2), 2) := by decide +kernel
theorem d_X12_run_7 : decode mX12_run.2.2.1 7 = .ok (.ireturn, 1) := by decide +kernel
def mX11_ran : MD := (11, yX11_ran, cX11_ran, 2, some .int)
theorem sel_X11_ran : Cond.instanceMethod mX11_ran.2.1 ∈ tblG ∧ Cond.selects mX11_ran.2.1.cls mX11_ran.2.1 mX11_ran.2.1 ∈ tblG := ⟨tblG_in (inT5 (List.mem_of_getElem? (i := 166) rfl)) rfl, tblG_in (inT5 (List.mem_of_getElem? (i := 167) rfl)) rfl⟩
theorem s_13_51 : e_siteV 13 51 mX11_ran 11 := ⟨tblG_in (inT5 (List.mem_of_getElem? (i := 165) rfl)) rfl, sel_X11_ran.1, sel_X11_ran.2, rfl⟩
theorem ok_X11_ran : e_m mX11_ran 1 := ⟨tblG_in (inT5 (List.mem_of_getElem? (i := 168) rfl)) rfl, by decide, rfl, ini_11, by decide +kernel, by decide⟩
theorem d_X11_ran_0 : decode mX11_ran.2.2.1 0 = .ok (.aload_n 0, 1) := by decide +kernel
theorem d_X11_ran_1 : decode mX11_ran.2.2.1 1 = .ok (.getfield 109, 3) := by decide +kernel
theorem d_X11_ran_4 : decode mX11_ran.2.2.1 4 = .ok (.ifCond .ne 5, 3) := by decide +kernel
theorem d_X11_ran_7 : decode mX11_ran.2.2.1 7 = .ok (.iconst (-1), 1) := by decide +kernel
theorem d_X11_ran_8 : decode mX11_ran.2.2.1 8 = .ok (.ireturn, 1) := by decide +kernel
def mX12_ran : MD := (12, yX12_ran, cX12_ran, 2, some .int)
theorem sel_X12_ran : Cond.instanceMethod mX12_ran.2.1 ∈ tblG ∧ Cond.selects mX12_ran.2.1.cls mX12_ran.2.1 mX12_ran.2.1 ∈ tblG := ⟨tblG_in (inT9 (List.mem_of_getElem? (i := 134) rfl)) rfl, tblG_in (inT9 (List.mem_of_getElem? (i := 135) rfl)) rfl⟩
theorem s_13_54 : e_siteV 13 54 mX12_ran 12 := ⟨tblG_in (inT9 (List.mem_of_getElem? (i := 133) rfl)) rfl, sel_X12_ran.1, sel_X12_ran.2, rfl⟩
theorem ok_X12_ran : e_m mX12_ran 1 := ⟨tblG_in (inT9 (List.mem_of_getElem? (i := 136) rfl)) rfl, by decide, rfl, ini_12, by decide +kernel, by decide⟩
theorem d_X12_ran_0 : decode mX12_ran.2.2.1 0 = .ok (.aload_n 0, 1) := by decide +kernel
theorem d_X12_ran_1 : decode mX12_ran.2.2.1 1 = .ok (.getfield 270, 3) := by decide +kernel
theorem d_X12_ran_4 : decode mX12_ran.2.2.1 4 = .ok (.ifCond .ne 5, 3) := by decide +kernel
theorem d_X12_ran_7 : decode mX12_ran.2.2.1 7 = .ok (.iconst (-1), 1) := by decide +kernel
theorem d_X12_ran_8 : decode mX12_ran.2.2.1 8 = .ok (.ireturn, 1) := by decide +kernel
def mX11_value : MD := (11, yX11_value, cX11_value, 2, some .int)
theorem sel_X11_value : Cond.instanceMethod mX11_value.2.1 ∈ tblG ∧ Cond.selects mX11_value.2.1.cls mX11_value.2.1 mX11_value.2.1 ∈ tblG := ⟨tblG_in (inT5 (List.mem_of_getElem? (i := 170) rfl)) rfl, tblG_in (inT5 (List.mem_of_getElem? (i := 171) rfl)) rfl⟩
theorem s_13_55 : e_siteV 13 55 mX11_value 11 := ⟨tblG_in (inT5 (List.mem_of_getElem? (i := 169) rfl)) rfl, sel_X11_value.1, sel_X11_value.2, rfl⟩
theorem ok_X11_value : e_m mX11_value 1 := ⟨tblG_in (inT5 (List.mem_of_getElem? (i := 172) rfl)) rfl, by decide, rfl, ini_11, by decide +kernel, by decide⟩
theorem d_X11_value_0 : decode mX11_value.2.2.1 0 = .ok (.aload_n 0, 1) := by decide +kernel
theorem d_X11_value_1 : decode mX11_value.2.2.1 1 = .ok (.getfield 109, 3) := by decide +kernel
theorem d_X11_value_4 : decode mX11_value.2.2.1 4 = .ok (.ifCond .eq 20, 3) := by decide +kernel
theorem d_X11_value_24 : decode mX11_value.2.2.1 24 = .ok (.ldc 170, 2) := by decide +kernel
theorem k_11_170 : Jvm.Cond.constant (e_cn 11) 170 (Int32.ofInt (-2000000000)) ∈ tblG := tblG_in (inT5 (List.mem_of_getElem? (i := 173) rfl)) rfl
theorem d_X11_value_26 : decode mX11_value.2.2.1 26 = .ok (.ireturn, 1) := by decide +kernel
def mX12_value : MD := (12, yX12_value, cX12_value, 2, some .int)
theorem sel_X12_value : Cond.instanceMethod mX12_value.2.1 ∈ tblG ∧ Cond.selects mX12_value.2.1.cls mX12_value.2.1 mX12_value.2.1 ∈ tblG := ⟨tblG_in (inT9 (List.mem_of_getElem? (i := 138) rfl)) rfl, tblG_in (inT9 (List.mem_of_getElem? (i := 139) rfl)) rfl⟩
theorem s_13_58 : e_siteV 13 58 mX12_value 12 := ⟨tblG_in (inT9 (List.mem_of_getElem? (i := 137) rfl)) rfl, sel_X12_value.1, sel_X12_value.2, rfl⟩
theorem ok_X12_value : e_m mX12_value 1 := ⟨tblG_in (inT9 (List.mem_of_getElem? (i := 140) rfl)) rfl, by decide, rfl, ini_12, by decide +kernel, by decide⟩
theorem d_X12_value_0 : decode mX12_value.2.2.1 0 = .ok (.aload_n 0, 1) := by decide +kernel
theorem d_X12_value_1 : decode mX12_value.2.2.1 1 = .ok (.getfield 270, 3) := by decide +kernel
theorem d_X12_value_4 : decode mX12_value.2.2.1 4 = .ok (.ifCond .eq 31, 3) := by decide +kernel
theorem d_X12_value_35 : decode mX12_value.2.2.1 35 = .ok (.ldc_w 640, 3) := by decide +kernel
theorem k_12_640 : Jvm.Cond.constant (e_cn 12) 640 (Int32.ofInt (-2000000000)) ∈ tblG := tblG_in (inT9 (List.mem_of_getElem? (i := 141) rfl)) rfl
theorem d_X12_value_38 : decode mX12_value.2.2.1 38 = .ok (.ireturn, 1) := by decide +kernel
def mX11_spent : MD := (11, yX11_spent, cX11_spent, 3, some .int)
theorem sel_X11_spent : Cond.instanceMethod mX11_spent.2.1 ∈ tblG ∧ Cond.selects mX11_spent.2.1.cls mX11_spent.2.1 mX11_spent.2.1 ∈ tblG := ⟨tblG_in (inT5 (List.mem_of_getElem? (i := 175) rfl)) rfl, tblG_in (inT5 (List.mem_of_getElem? (i := 176) rfl)) rfl⟩
theorem s_13_59 : e_siteV 13 59 mX11_spent 11 := ⟨tblG_in (inT5 (List.mem_of_getElem? (i := 174) rfl)) rfl, sel_X11_spent.1, sel_X11_spent.2, rfl⟩
theorem ok_X11_spent : e_m mX11_spent 2 := ⟨tblG_in (inT5 (List.mem_of_getElem? (i := 177) rfl)) rfl, by decide, rfl, ini_11, by decide +kernel, by decide⟩
theorem d_X11_spent_0 : decode mX11_spent.2.2.1 0 = .ok (.aload_n 0, 1) := by decide +kernel
theorem d_X11_spent_1 : decode mX11_spent.2.2.1 1 = .ok (.getfield 109, 3) := by decide +kernel
theorem d_X11_spent_4 : decode mX11_spent.2.2.1 4 = .ok (.ifCond .eq 20, 3) := by decide +kernel
theorem d_X11_spent_24 : decode mX11_spent.2.2.1 24 = .ok (.iconst (-1), 1) := by decide +kernel
theorem d_X11_spent_25 : decode mX11_spent.2.2.1 25 = .ok (.ireturn, 1) := by decide +kernel
def mX12_spent : MD := (12, yX12_spent, cX12_spent, 3, some .int)
theorem sel_X12_spent : Cond.instanceMethod mX12_spent.2.1 ∈ tblG ∧ Cond.selects mX12_spent.2.1.cls mX12_spent.2.1 mX12_spent.2.1 ∈ tblG := ⟨tblG_in (inT9 (List.mem_of_getElem? (i := 143) rfl)) rfl, tblG_in (inT9 (List.mem_of_getElem? (i := 144) rfl)) rfl⟩
theorem s_13_63 : e_siteV 13 63 mX12_spent 12 := ⟨tblG_in (inT9 (List.mem_of_getElem? (i := 142) rfl)) rfl, sel_X12_spent.1, sel_X12_spent.2, rfl⟩
theorem ok_X12_spent : e_m mX12_spent 2 := ⟨tblG_in (inT9 (List.mem_of_getElem? (i := 145) rfl)) rfl, by decide, rfl, ini_12, by decide +kernel, by decide⟩
theorem d_X12_spent_0 : decode mX12_spent.2.2.1 0 = .ok (.aload_n 0, 1) := by decide +kernel
theorem d_X12_spent_1 : decode mX12_spent.2.2.1 1 = .ok (.getfield 270, 3) := by decide +kernel
theorem d_X12_spent_4 : decode mX12_spent.2.2.1 4 = .ok (.ifCond .eq 33, 3) := by decide +kernel
theorem d_X12_spent_37 : decode mX12_spent.2.2.1 37 = .ok (.iconst (-1), 1) := by decide +kernel
theorem d_X12_spent_38 : decode mX12_spent.2.2.1 38 = .ok (.ireturn, 1) := by decide +kernel
def mX11_pays : MD := (11, yX11_pays, cX11_pays, 3, some .int)
theorem sel_X11_pays : Cond.instanceMethod mX11_pays.2.1 ∈ tblG ∧ Cond.selects mX11_pays.2.1.cls mX11_pays.2.1 mX11_pays.2.1 ∈ tblG := ⟨tblG_in (inT5 (List.mem_of_getElem? (i := 183) rfl)) rfl, tblG_in (inT5 (List.mem_of_getElem? (i := 184) rfl)) rfl⟩
theorem s_13_64 : e_siteV 13 64 mX11_pays 11 := ⟨tblG_in (inT5 (List.mem_of_getElem? (i := 182) rfl)) rfl, sel_X11_pays.1, sel_X11_pays.2, rfl⟩
theorem ok_X11_pays : e_m mX11_pays 2 := ⟨tblG_in (inT5 (List.mem_of_getElem? (i := 185) rfl)) rfl, by decide, rfl, ini_11, by decide +kernel, by decide⟩
theorem d_X11_pays_0 : decode mX11_pays.2.2.1 0 = .ok (.aload_n 0, 1) := by decide +kernel
theorem d_X11_pays_1 : decode mX11_pays.2.2.1 1 = .ok (.getfield 109, 3) := by decide +kernel
theorem d_X11_pays_4 : decode mX11_pays.2.2.1 4 = .ok (.ifCond .eq 12, 3) := by decide +kernel
theorem d_X11_pays_16 : decode mX11_pays.2.2.1 16 = .ok (.iconst (-1), 1) := by decide +kernel
theorem d_X11_pays_17 : decode mX11_pays.2.2.1 17 = .ok (.ireturn, 1) := by decide +kernel
def mX12_pays : MD := (12, yX12_pays, cX12_pays, 8, some .int)
theorem sel_X12_pays : Cond.instanceMethod mX12_pays.2.1 ∈ tblG ∧ Cond.selects mX12_pays.2.1.cls mX12_pays.2.1 mX12_pays.2.1 ∈ tblG := ⟨tblG_in (inT9 (List.mem_of_getElem? (i := 175) rfl)) rfl, tblG_in (inT9 (List.mem_of_getElem? (i := 176) rfl)) rfl⟩
theorem s_13_67 : e_siteV 13 67 mX12_pays 12 := ⟨tblG_in (inT9 (List.mem_of_getElem? (i := 174) rfl)) rfl, sel_X12_pays.1, sel_X12_pays.2, rfl⟩
theorem ok_X12_pays : e_m mX12_pays 2 := ⟨tblG_in (inT9 (List.mem_of_getElem? (i := 177) rfl)) rfl, by decide, rfl, ini_12, by decide +kernel, by decide⟩
theorem d_X12_pays_0 : decode mX12_pays.2.2.1 0 = .ok (.aload_n 0, 1) := by decide +kernel
theorem d_X12_pays_1 : decode mX12_pays.2.2.1 1 = .ok (.getfield 270, 3) := by decide +kernel
theorem d_X12_pays_4 : decode mX12_pays.2.2.1 4 = .ok (.ifCond .eq 25, 3) := by decide +kernel
theorem d_X12_pays_29 : decode mX12_pays.2.2.1 29 = .ok (.iconst (-1), 1) := by decide +kernel
theorem d_X12_pays_30 : decode mX12_pays.2.2.1 30 = .ok (.ireturn, 1) := by decide +kernel
def mX11_stretches : MD := (11, yX11_stretches, cX11_stretches, 2, some .int)
theorem sel_X11_stretches : Cond.instanceMethod mX11_stretches.2.1 ∈ tblG ∧ Cond.selects mX11_stretches.2.1.cls mX11_stretches.2.1 mX11_stretches.2.1 ∈ tblG := ⟨tblG_in (inT5 (List.mem_of_getElem? (i := 212) rfl)) rfl, tblG_in (inT5 (List.mem_of_getElem? (i := 213) rfl)) rfl⟩
theorem s_13_68 : e_siteV 13 68 mX11_stretches 11 := ⟨tblG_in (inT5 (List.mem_of_getElem? (i := 211) rfl)) rfl, sel_X11_stretches.1, sel_X11_stretches.2, rfl⟩
theorem ok_X11_stretches : e_m mX11_stretches 1 := ⟨tblG_in (inT5 (List.mem_of_getElem? (i := 214) rfl)) rfl, by decide, rfl, ini_11, by decide +kernel, by decide⟩
theorem d_X11_stretches_0 : decode mX11_stretches.2.2.1 0 = .ok (.aload_n 0, 1) := by decide +kernel
theorem d_X11_stretches_1 : decode mX11_stretches.2.2.1 1 = .ok (.getfield 109, 3) := by decide +kernel
theorem d_X11_stretches_4 : decode mX11_stretches.2.2.1 4 = .ok (.ifCond .eq 11, 3) := by decide +kernel
theorem d_X11_stretches_15 : decode mX11_stretches.2.2.1 15 = .ok (.iconst (-1), 1) := by decide +kernel
theorem d_X11_stretches_16 : decode mX11_stretches.2.2.1 16 = .ok (.ireturn, 1) := by decide +kernel
def mX12_stretches : MD := (12, yX12_stretches, cX12_stretches, 3, some .int)
theorem sel_X12_stretches : Cond.instanceMethod mX12_stretches.2.1 ∈ tblG ∧ Cond.selects mX12_stretches.2.1.cls mX12_stretches.2.1 mX12_stretches.2.1 ∈ tblG := ⟨tblG_in (inT9 (List.mem_of_getElem? (i := 147) rfl)) rfl, tblG_in (inT9 (List.mem_of_getElem? (i := 148) rfl)) rfl⟩
theorem s_13_71 : e_siteV 13 71 mX12_stretches 12 := ⟨tblG_in (inT9 (List.mem_of_getElem? (i := 146) rfl)) rfl, sel_X12_stretches.1, sel_X12_stretches.2, rfl⟩
theorem ok_X12_stretches : e_m mX12_stretches 1 := ⟨tblG_in (inT9 (List.mem_of_getElem? (i := 149) rfl)) rfl, by decide, rfl, ini_12, by decide +kernel, by decide⟩
theorem d_X12_stretches_0 : decode mX12_stretches.2.2.1 0 = .ok (.aload_n 0, 1) := by decide +kernel
theorem d_X12_stretches_1 : decode mX12_stretches.2.2.1 1 = .ok (.getfield 270, 3) := by decide +kernel
theorem d_X12_stretches_4 : decode mX12_stretches.2.2.1 4 = .ok (.ifCond .eq 11, 3) := by decide +kernel
theorem d_X12_stretches_15 : decode mX12_stretches.2.2.1 15 = .ok (.iconst (-1), 1) := by decide +kernel
theorem d_X12_stretches_16 : decode mX12_stretches.2.2.1 16 = .ok (.ireturn, 1) := by decide +kernel
def mX11_stretch : MD := (11, yX11_stretch, cX11_stretch, 6, some .int)
theorem sel_X11_stretch : Cond.instanceMethod mX11_stretch.2.1 ∈ tblG ∧ Cond.selects mX11_stretch.2.1.cls mX11_stretch.2.1 mX11_stretch.2.1 ∈ tblG := ⟨tblG_in (inT5 (List.mem_of_getElem? (i := 220) rfl)) rfl, tblG_in (inT5 (List.mem_of_getElem? (i := 221) rfl)) rfl⟩
theorem s_13_72 : e_siteV 13 72 mX11_stretch 11 := ⟨tblG_in (inT5 (List.mem_of_getElem? (i := 219) rfl)) rfl, sel_X11_stretch.1, sel_X11_stretch.2, rfl⟩
theorem ok_X11_stretch : e_m mX11_stretch 3 := ⟨tblG_in (inT5 (List.mem_of_getElem? (i := 222) rfl)) rfl, by decide, rfl, ini_11, by decide +kernel, by decide⟩
theorem d_X11_stretch_0 : decode mX11_stretch.2.2.1 0 = .ok (.aload_n 0, 1) := by decide +kernel
theorem d_X11_stretch_1 : decode mX11_stretch.2.2.1 1 = .ok (.iload_n 1, 1) := by decide +kernel
theorem d_X11_stretch_2 : decode mX11_stretch.2.2.1 2 = .ok (.iload_n 2, 1) := by decide +kernel
theorem d_X11_stretch_3 : decode mX11_stretch.2.2.1 3 = .ok (.invokevirtual 214, 3) := by decide +kernel
def mX11_stretchPlace : MD := (11, yX11_stretchPlace, cX11_stretchPlace, 3, some .int)
theorem sel_X11_stretchPlace : Cond.instanceMethod mX11_stretchPlace.2.1 ∈ tblG ∧ Cond.selects mX11_stretchPlace.2.1.cls mX11_stretchPlace.2.1 mX11_stretchPlace.2.1 ∈ tblG := ⟨tblG_in (inT5 (List.mem_of_getElem? (i := 225) rfl)) rfl, tblG_in (inP4 (q := (mX11_stretchPlace.2.1, 14)) (List.mem_of_getElem? (i := 12) rfl)) rfl⟩
theorem s_11_214 : e_siteV 11 214 mX11_stretchPlace 11 := ⟨tblG_in (inT5 (List.mem_of_getElem? (i := 223) rfl)) rfl, sel_X11_stretchPlace.1, sel_X11_stretchPlace.2, rfl⟩
theorem ok_X11_stretchPlace : e_m mX11_stretchPlace 2 := ⟨tblG_in (inT5 (List.mem_of_getElem? (i := 226) rfl)) rfl, by decide, rfl, ini_11, by decide +kernel, by decide⟩
theorem d_X11_stretchPlace_0 : decode mX11_stretchPlace.2.2.1 0 = .ok (.aload_n 0, 1) := by decide +kernel
theorem d_X11_stretchPlace_1 : decode mX11_stretchPlace.2.2.1 1 = .ok (.getfield 109, 3) := by decide +kernel
theorem d_X11_stretchPlace_4 : decode mX11_stretchPlace.2.2.1 4 = .ok (.ifCond .eq 15, 3) := by decide +kernel
theorem d_X11_stretchPlace_19 : decode mX11_stretchPlace.2.2.1 19 = .ok (.iconst (-1), 1) := by decide +kernel
theorem d_X11_stretchPlace_20 : decode mX11_stretchPlace.2.2.1 20 = .ok (.ireturn, 1) := by decide +kernel
theorem d_X11_stretch_6 : decode mX11_stretch.2.2.1 6 = .ok (.istore 4, 2) := by decide +kernel
theorem d_X11_stretch_8 : decode mX11_stretch.2.2.1 8 = .ok (.iload 4, 2) := by decide +kernel
theorem d_X11_stretch_10 : decode mX11_stretch.2.2.1 10 = .ok (.ifCond .ge 5, 3) := by decide +kernel
theorem d_X11_stretch_13 : decode mX11_stretch.2.2.1 13 = .ok (.iconst (-1), 1) := by decide +kernel
theorem d_X11_stretch_14 : decode mX11_stretch.2.2.1 14 = .ok (.ireturn, 1) := by decide +kernel
def mX12_stretch : MD := (12, yX12_stretch, cX12_stretch, 4, some .int)
theorem sel_X12_stretch : Cond.instanceMethod mX12_stretch.2.1 ∈ tblG ∧ Cond.selects mX12_stretch.2.1.cls mX12_stretch.2.1 mX12_stretch.2.1 ∈ tblG := ⟨tblG_in (inT9 (List.mem_of_getElem? (i := 159) rfl)) rfl, tblG_in (inT9 (List.mem_of_getElem? (i := 160) rfl)) rfl⟩
theorem s_13_75 : e_siteV 13 75 mX12_stretch 12 := ⟨tblG_in (inT9 (List.mem_of_getElem? (i := 158) rfl)) rfl, sel_X12_stretch.1, sel_X12_stretch.2, rfl⟩
theorem ok_X12_stretch : e_m mX12_stretch 3 := ⟨tblG_in (inT9 (List.mem_of_getElem? (i := 161) rfl)) rfl, by decide, rfl, ini_12, by decide +kernel, by decide⟩
theorem d_X12_stretch_0 : decode mX12_stretch.2.2.1 0 = .ok (.aload_n 0, 1) := by decide +kernel
theorem d_X12_stretch_1 : decode mX12_stretch.2.2.1 1 = .ok (.getfield 270, 3) := by decide +kernel
theorem d_X12_stretch_4 : decode mX12_stretch.2.2.1 4 = .ok (.ifCond .eq 33, 3) := by decide +kernel
theorem d_X12_stretch_37 : decode mX12_stretch.2.2.1 37 = .ok (.iconst (-1), 1) := by decide +kernel
theorem d_X12_stretch_38 : decode mX12_stretch.2.2.1 38 = .ok (.ireturn, 1) := by decide +kernel
def mX11_lines : MD := (11, yX11_lines, cX11_lines, 4, some .long)
theorem sel_X11_lines : Cond.instanceMethod mX11_lines.2.1 ∈ tblG ∧ Cond.selects mX11_lines.2.1.cls mX11_lines.2.1 mX11_lines.2.1 ∈ tblG := ⟨tblG_in (inT5 (List.mem_of_getElem? (i := 232) rfl)) rfl, tblG_in (inT5 (List.mem_of_getElem? (i := 233) rfl)) rfl⟩
theorem s_13_76 : e_siteV 13 76 mX11_lines 11 := ⟨tblG_in (inT5 (List.mem_of_getElem? (i := 231) rfl)) rfl, sel_X11_lines.1, sel_X11_lines.2, rfl⟩
theorem ok_X11_lines : e_m mX11_lines 2 := ⟨tblG_in (inT5 (List.mem_of_getElem? (i := 234) rfl)) rfl, by decide, rfl, ini_11, by decide +kernel, by decide⟩
theorem d_X11_lines_0 : decode mX11_lines.2.2.1 0 = .ok (.aload_n 0, 1) := by decide +kernel
theorem d_X11_lines_1 : decode mX11_lines.2.2.1 1 = .ok (.iload_n 1, 1) := by decide +kernel
theorem d_X11_lines_2 : decode mX11_lines.2.2.1 2 = .ok (.iload_n 2, 1) := by decide +kernel
theorem d_X11_lines_3 : decode mX11_lines.2.2.1 3 = .ok (.invokevirtual 214, 3) := by decide +kernel
theorem d_X11_lines_6 : decode mX11_lines.2.2.1 6 = .ok (.istore_n 3, 1) := by decide +kernel
theorem d_X11_lines_7 : decode mX11_lines.2.2.1 7 = .ok (.iload_n 3, 1) := by decide +kernel
theorem d_X11_lines_8 : decode mX11_lines.2.2.1 8 = .ok (.ifCond .ge 7, 3) := by decide +kernel
theorem d_X11_lines_11 : decode mX11_lines.2.2.1 11 = .ok (.lconst 0, 1) := by decide +kernel
theorem d_X11_lines_12 : decode mX11_lines.2.2.1 12 = .ok (.goto 18, 3) := by decide +kernel
theorem d_X11_lines_30 : decode mX11_lines.2.2.1 30 = .ok (.lreturn, 1) := by decide +kernel
def mX12_lines : MD := (12, yX12_lines, cX12_lines, 3, some .long)
theorem sel_X12_lines : Cond.instanceMethod mX12_lines.2.1 ∈ tblG ∧ Cond.selects mX12_lines.2.1.cls mX12_lines.2.1 mX12_lines.2.1 ∈ tblG := ⟨tblG_in (inT9 (List.mem_of_getElem? (i := 167) rfl)) rfl, tblG_in (inT9 (List.mem_of_getElem? (i := 168) rfl)) rfl⟩
theorem s_13_80 : e_siteV 13 80 mX12_lines 12 := ⟨tblG_in (inT9 (List.mem_of_getElem? (i := 166) rfl)) rfl, sel_X12_lines.1, sel_X12_lines.2, rfl⟩
theorem ok_X12_lines : e_m mX12_lines 2 := ⟨tblG_in (inT9 (List.mem_of_getElem? (i := 169) rfl)) rfl, by decide, rfl, ini_12, by decide +kernel, by decide⟩
theorem d_X12_lines_0 : decode mX12_lines.2.2.1 0 = .ok (.aload_n 0, 1) := by decide +kernel
theorem d_X12_lines_1 : decode mX12_lines.2.2.1 1 = .ok (.getfield 270, 3) := by decide +kernel
theorem d_X12_lines_4 : decode mX12_lines.2.2.1 4 = .ok (.ifCond .eq 24, 3) := by decide +kernel
theorem d_X12_lines_28 : decode mX12_lines.2.2.1 28 = .ok (.lconst 0, 1) := by decide +kernel
theorem d_X12_lines_29 : decode mX12_lines.2.2.1 29 = .ok (.goto 8, 3) := by decide +kernel
theorem d_X12_lines_37 : decode mX12_lines.2.2.1 37 = .ok (.lreturn, 1) := by decide +kernel
def mX11_byTurns : MD := (11, yX11_byTurns, cX11_byTurns, 8, some .long)
theorem sel_X11_byTurns : Cond.instanceMethod mX11_byTurns.2.1 ∈ tblG ∧ Cond.selects mX11_byTurns.2.1.cls mX11_byTurns.2.1 mX11_byTurns.2.1 ∈ tblG := ⟨tblG_in (inT5 (List.mem_of_getElem? (i := 236) rfl)) rfl, tblG_in (inT5 (List.mem_of_getElem? (i := 237) rfl)) rfl⟩
theorem s_13_81 : e_siteV 13 81 mX11_byTurns 11 := ⟨tblG_in (inT5 (List.mem_of_getElem? (i := 235) rfl)) rfl, sel_X11_byTurns.1, sel_X11_byTurns.2, rfl⟩
theorem ok_X11_byTurns : e_m mX11_byTurns 4 := ⟨tblG_in (inT5 (List.mem_of_getElem? (i := 238) rfl)) rfl, by decide, rfl, ini_11, by decide +kernel, by decide⟩
theorem d_X11_byTurns_0 : decode mX11_byTurns.2.2.1 0 = .ok (.aload_n 0, 1) := by decide +kernel
theorem d_X11_byTurns_1 : decode mX11_byTurns.2.2.1 1 = .ok (.iload_n 1, 1) := by decide +kernel
theorem d_X11_byTurns_2 : decode mX11_byTurns.2.2.1 2 = .ok (.iload_n 2, 1) := by decide +kernel
theorem d_X11_byTurns_3 : decode mX11_byTurns.2.2.1 3 = .ok (.invokevirtual 214, 3) := by decide +kernel
theorem d_X11_byTurns_6 : decode mX11_byTurns.2.2.1 6 = .ok (.istore 5, 2) := by decide +kernel
theorem d_X11_byTurns_8 : decode mX11_byTurns.2.2.1 8 = .ok (.iload 5, 2) := by decide +kernel
theorem d_X11_byTurns_10 : decode mX11_byTurns.2.2.1 10 = .ok (.ifCond .lt 11, 3) := by decide +kernel
theorem d_X11_byTurns_21 : decode mX11_byTurns.2.2.1 21 = .ok (.ldc2_w 230, 3) := by decide +kernel
theorem kl_11_230 : Jvm.Cond.constantLong (e_cn 11) 230 (Int64.ofInt (-1000000000000000)) ∈ tblG := tblG_in (inT5 (List.mem_of_getElem? (i := 239) rfl)) rfl
theorem d_X11_byTurns_24 : decode mX11_byTurns.2.2.1 24 = .ok (.lreturn, 1) := by decide +kernel
def mX12_byTurns : MD := (12, yX12_byTurns, cX12_byTurns, 14, some .long)
theorem sel_X12_byTurns : Cond.instanceMethod mX12_byTurns.2.1 ∈ tblG ∧ Cond.selects mX12_byTurns.2.1.cls mX12_byTurns.2.1 mX12_byTurns.2.1 ∈ tblG := ⟨tblG_in (inT9 (List.mem_of_getElem? (i := 194) rfl)) rfl, tblG_in (inT9 (List.mem_of_getElem? (i := 195) rfl)) rfl⟩
theorem s_13_85 : e_siteV 13 85 mX12_byTurns 12 := ⟨tblG_in (inT9 (List.mem_of_getElem? (i := 193) rfl)) rfl, sel_X12_byTurns.1, sel_X12_byTurns.2, rfl⟩
theorem ok_X12_byTurns : e_m mX12_byTurns 4 := ⟨tblG_in (inT9 (List.mem_of_getElem? (i := 196) rfl)) rfl, by decide, rfl, ini_12, by decide +kernel, by decide⟩
theorem d_X12_byTurns_0 : decode mX12_byTurns.2.2.1 0 = .ok (.aload_n 0, 1) := by decide +kernel
theorem d_X12_byTurns_1 : decode mX12_byTurns.2.2.1 1 = .ok (.getfield 270, 3) := by decide +kernel
theorem d_X12_byTurns_4 : decode mX12_byTurns.2.2.1 4 = .ok (.ifCond .eq 32, 3) := by decide +kernel
theorem d_X12_byTurns_36 : decode mX12_byTurns.2.2.1 36 = .ok (.ldc2_w 669, 3) := by decide +kernel
theorem kl_12_669 : Jvm.Cond.constantLong (e_cn 12) 669 (Int64.ofInt (-1000000000000000)) ∈ tblG := tblG_in (inT9 (List.mem_of_getElem? (i := 197) rfl)) rfl
theorem d_X12_byTurns_39 : decode mX12_byTurns.2.2.1 39 = .ok (.lreturn, 1) := by decide +kernel
def mX11_wasted : MD := (11, yX11_wasted, cX11_wasted, 2, some .int)
theorem sel_X11_wasted : Cond.instanceMethod mX11_wasted.2.1 ∈ tblG ∧ Cond.selects mX11_wasted.2.1.cls mX11_wasted.2.1 mX11_wasted.2.1 ∈ tblG := ⟨tblG_in (inT6 (List.mem_of_getElem? (i := 47) rfl)) rfl, tblG_in (inT6 (List.mem_of_getElem? (i := 48) rfl)) rfl⟩
theorem s_13_86 : e_siteV 13 86 mX11_wasted 11 := ⟨tblG_in (inT6 (List.mem_of_getElem? (i := 46) rfl)) rfl, sel_X11_wasted.1, sel_X11_wasted.2, rfl⟩
theorem ok_X11_wasted : e_m mX11_wasted 1 := ⟨tblG_in (inT6 (List.mem_of_getElem? (i := 49) rfl)) rfl, by decide, rfl, ini_11, by decide +kernel, by decide⟩
theorem d_X11_wasted_0 : decode mX11_wasted.2.2.1 0 = .ok (.aload_n 0, 1) := by decide +kernel
theorem d_X11_wasted_1 : decode mX11_wasted.2.2.1 1 = .ok (.getfield 109, 3) := by decide +kernel
theorem d_X11_wasted_4 : decode mX11_wasted.2.2.1 4 = .ok (.ifCond .eq 11, 3) := by decide +kernel
theorem d_X11_wasted_15 : decode mX11_wasted.2.2.1 15 = .ok (.iconst (-1), 1) := by decide +kernel
theorem d_X11_wasted_16 : decode mX11_wasted.2.2.1 16 = .ok (.ireturn, 1) := by decide +kernel
def mX12_wasted : MD := (12, yX12_wasted, cX12_wasted, 8, some .int)
theorem sel_X12_wasted : Cond.instanceMethod mX12_wasted.2.1 ∈ tblG ∧ Cond.selects mX12_wasted.2.1.cls mX12_wasted.2.1 mX12_wasted.2.1 ∈ tblG := ⟨tblG_in (inT9 (List.mem_of_getElem? (i := 190) rfl)) rfl, tblG_in (inT9 (List.mem_of_getElem? (i := 191) rfl)) rfl⟩
theorem s_13_89 : e_siteV 13 89 mX12_wasted 12 := ⟨tblG_in (inT9 (List.mem_of_getElem? (i := 189) rfl)) rfl, sel_X12_wasted.1, sel_X12_wasted.2, rfl⟩
theorem ok_X12_wasted : e_m mX12_wasted 1 := ⟨tblG_in (inT9 (List.mem_of_getElem? (i := 192) rfl)) rfl, by decide, rfl, ini_12, by decide +kernel, by decide⟩
theorem d_X12_wasted_0 : decode mX12_wasted.2.2.1 0 = .ok (.aload_n 0, 1) := by decide +kernel
theorem d_X12_wasted_1 : decode mX12_wasted.2.2.1 1 = .ok (.getfield 270, 3) := by decide +kernel
theorem d_X12_wasted_4 : decode mX12_wasted.2.2.1 4 = .ok (.ifCond .eq 11, 3) := by decide +kernel
theorem d_X12_wasted_15 : decode mX12_wasted.2.2.1 15 = .ok (.iconst (-1), 1) := by decide +kernel
theorem d_X12_wasted_16 : decode mX12_wasted.2.2.1 16 = .ok (.ireturn, 1) := by decide +kernel
def mX11_over : MD := (11, yX11_over, cX11_over, 4, some .int)
theorem sel_X11_over : Cond.instanceMethod mX11_over.2.1 ∈ tblG ∧ Cond.selects mX11_over.2.1.cls mX11_over.2.1 mX11_over.2.1 ∈ tblG := ⟨tblG_in (inT6 (List.mem_of_getElem? (i := 51) rfl)) rfl, tblG_in (inT6 (List.mem_of_getElem? (i := 52) rfl)) rfl⟩
theorem s_13_90 : e_siteV 13 90 mX11_over 11 := ⟨tblG_in (inT6 (List.mem_of_getElem? (i := 50) rfl)) rfl, sel_X11_over.1, sel_X11_over.2, rfl⟩
theorem ok_X11_over : e_m mX11_over 1 := ⟨tblG_in (inT6 (List.mem_of_getElem? (i := 53) rfl)) rfl, by decide, rfl, ini_11, by decide +kernel, by decide⟩
theorem d_X11_over_0 : decode mX11_over.2.2.1 0 = .ok (.aload_n 0, 1) := by decide +kernel
theorem d_X11_over_1 : decode mX11_over.2.2.1 1 = .ok (.getfield 63, 3) := by decide +kernel
theorem d_X11_over_4 : decode mX11_over.2.2.1 4 = .ok (.aload_n 0, 1) := by decide +kernel
theorem d_X11_over_5 : decode mX11_over.2.2.1 5 = .ok (.getfield 30, 3) := by decide +kernel
theorem d_X11_over_8 : decode mX11_over.2.2.1 8 = .ok (.invokevirtual 249, 3) := by decide +kernel
def mX10_begin : MD := (10, yX10_begin, cX10_begin, 2, some .int)
theorem sel_X10_begin : Cond.instanceMethod mX10_begin.2.1 ∈ tblG ∧ Cond.selects mX10_begin.2.1.cls mX10_begin.2.1 mX10_begin.2.1 ∈ tblG := ⟨tblG_in (inT6 (List.mem_of_getElem? (i := 55) rfl)) rfl, tblG_in (inT6 (List.mem_of_getElem? (i := 56) rfl)) rfl⟩
theorem s_11_249 : e_siteV 11 249 mX10_begin 10 := ⟨tblG_in (inT6 (List.mem_of_getElem? (i := 54) rfl)) rfl, sel_X10_begin.1, sel_X10_begin.2, rfl⟩
theorem ok_X10_begin : e_m mX10_begin 1 := ⟨tblG_in (inT6 (List.mem_of_getElem? (i := 57) rfl)) rfl, by decide, rfl, ini_10, by decide +kernel, by decide⟩
theorem d_X10_begin_0 : decode mX10_begin.2.2.1 0 = .ok (.aload_n 1, 1) := by decide +kernel
theorem d_X10_begin_1 : decode mX10_begin.2.2.1 1 = .ok (.getfield 33, 3) := by decide +kernel
theorem f_10_33 : e_fld 10 33 3 8 12 2 true := ⟨RX3, TX3, 8, rfl, rfl, by decide, rfl, rfl, rfl, iX3, tblG_in (inT1 (List.mem_of_getElem? (i := 195) rfl)) rfl, tyX3_ok, nmX3⟩
theorem d_X10_begin_4 : decode mX10_begin.2.2.1 4 = .ok (.iconst 0, 1) := by decide +kernel
theorem d_X10_begin_5 : decode mX10_begin.2.2.1 5 = .ok (.aload_n 0, 1) := by decide +kernel
theorem d_X10_begin_6 : decode mX10_begin.2.2.1 6 = .ok (.getfield 9, 3) := by decide +kernel
theorem d_X10_begin_9 : decode mX10_begin.2.2.1 9 = .ok (.iconst 0, 1) := by decide +kernel
theorem d_X10_begin_10 : decode mX10_begin.2.2.1 10 = .ok (.iconst 3, 1) := by decide +kernel
theorem d_X10_begin_11 : decode mX10_begin.2.2.1 11 = .ok (.invokestatic 36, 3) := by decide +kernel
theorem ac_10_36 : Cond.methodLink (e_cn 10) 36 arraycopyName ∈ tblG := tblG_in (inT6 (List.mem_of_getElem? (i := 58) rfl)) rfl
theorem d_X10_begin_14 : decode mX10_begin.2.2.1 14 = .ok (.aload_n 0, 1) := by decide +kernel
theorem d_X10_begin_15 : decode mX10_begin.2.2.1 15 = .ok (.getfield 21, 3) := by decide +kernel
theorem d_X10_begin_18 : decode mX10_begin.2.2.1 18 = .ok (.ifCond .eq 7, 3) := by decide +kernel
theorem d_X10_begin_25 : decode mX10_begin.2.2.1 25 = .ok (.aload_n 1, 1) := by decide +kernel
theorem d_X10_begin_26 : decode mX10_begin.2.2.1 26 = .ok (.invokestatic 42, 3) := by decide +kernel
def mX10_count : MD := (10, yX10_count, cX10_count, 3, some .int)
theorem s_10_42 : e_siteS 10 42 mX10_count := ⟨tblG_in (inT6 (List.mem_of_getElem? (i := 59) rfl)) rfl, tblG_in (inT6 (List.mem_of_getElem? (i := 60) rfl)) rfl⟩
theorem ok_X10_count : e_m mX10_count 1 := ⟨tblG_in (inT6 (List.mem_of_getElem? (i := 61) rfl)) rfl, by decide, rfl, ini_10, by decide +kernel, by decide⟩
theorem d_X10_count_0 : decode mX10_count.2.2.1 0 = .ok (.iconst 1, 1) := by decide +kernel
theorem d_X10_count_1 : decode mX10_count.2.2.1 1 = .ok (.istore_n 1, 1) := by decide +kernel
theorem d_X10_count_2 : decode mX10_count.2.2.1 2 = .ok (.iconst 0, 1) := by decide +kernel
theorem d_X10_count_3 : decode mX10_count.2.2.1 3 = .ok (.istore_n 2, 1) := by decide +kernel
theorem d_X10_count_4 : decode mX10_count.2.2.1 4 = .ok (.iload_n 2, 1) := by decide +kernel
theorem d_X10_count_5 : decode mX10_count.2.2.1 5 = .ok (.aload_n 0, 1) := by decide +kernel
theorem d_X10_count_6 : decode mX10_count.2.2.1 6 = .ok (.getfield 25, 3) := by decide +kernel
theorem f_10_25 : e_fld 10 25 3 4 12 2 true := ⟨RX3, TX3, 4, rfl, rfl, by decide, rfl, rfl, rfl, iX3, tblG_in (inT1 (List.mem_of_getElem? (i := 173) rfl)) rfl, tyX3_ok, nmX3⟩
theorem d_X10_count_9 : decode mX10_count.2.2.1 9 = .ok (.iconst 1, 1) := by decide +kernel
theorem d_X10_count_10 : decode mX10_count.2.2.1 10 = .ok (.iaload, 1) := by decide +kernel
theorem d_X10_count_11 : decode mX10_count.2.2.1 11 = .ok (.if_icmp .ge 27, 3) := by decide +kernel
theorem d_X10_count_38 : decode mX10_count.2.2.1 38 = .ok (.iload_n 1, 1) := by decide +kernel
theorem d_X10_count_39 : decode mX10_count.2.2.1 39 = .ok (.ireturn, 1) := by decide +kernel
theorem d_X10_begin_29 : decode mX10_begin.2.2.1 29 = .ok (.ireturn, 1) := by decide +kernel
theorem d_X11_over_11 : decode mX11_over.2.2.1 11 = .ok (.istore_n 2, 1) := by decide +kernel
theorem d_X11_over_12 : decode mX11_over.2.2.1 12 = .ok (.iload_n 2, 1) := by decide +kernel
theorem d_X11_over_13 : decode mX11_over.2.2.1 13 = .ok (.sipush 256, 3) := by decide +kernel
theorem d_X11_over_16 : decode mX11_over.2.2.1 16 = .ok (.if_icmp .le 5, 3) := by decide +kernel
theorem d_X11_over_21 : decode mX11_over.2.2.1 21 = .ok (.iconst 0, 1) := by decide +kernel
theorem d_X11_over_22 : decode mX11_over.2.2.1 22 = .ok (.istore_n 3, 1) := by decide +kernel
theorem d_X11_over_23 : decode mX11_over.2.2.1 23 = .ok (.iload_n 3, 1) := by decide +kernel
theorem d_X11_over_24 : decode mX11_over.2.2.1 24 = .ok (.iload_n 2, 1) := by decide +kernel
theorem d_X11_over_25 : decode mX11_over.2.2.1 25 = .ok (.if_icmp .ge 62, 3) := by decide +kernel
theorem d_X11_over_28 : decode mX11_over.2.2.1 28 = .ok (.aload_n 0, 1) := by decide +kernel
theorem d_X11_over_29 : decode mX11_over.2.2.1 29 = .ok (.getfield 50, 3) := by decide +kernel
theorem d_X11_over_32 : decode mX11_over.2.2.1 32 = .ok (.aload_n 0, 1) := by decide +kernel
theorem d_X11_over_33 : decode mX11_over.2.2.1 33 = .ok (.getfield 30, 3) := by decide +kernel
theorem d_X11_over_36 : decode mX11_over.2.2.1 36 = .ok (.aload_n 0, 1) := by decide +kernel
theorem d_X11_over_37 : decode mX11_over.2.2.1 37 = .ok (.getfield 63, 3) := by decide +kernel
theorem d_X11_over_40 : decode mX11_over.2.2.1 40 = .ok (.getfield 253, 3) := by decide +kernel
theorem f_11_253 : e_fld 11 253 10 4 7 2 true := ⟨RX10, TX10, 4, rfl, rfl, by decide, rfl, rfl, rfl, iX10, tblG_in (inT2 (List.mem_of_getElem? (i := 194) rfl)) rfl, tyX10_ok, nmX10⟩
theorem d_X11_over_43 : decode mX11_over.2.2.1 43 = .ok (.iconst (-1), 1) := by decide +kernel
theorem d_X11_over_44 : decode mX11_over.2.2.1 44 = .ok (.invokevirtual 144, 3) := by decide +kernel
theorem d_X11_over_47 : decode mX11_over.2.2.1 47 = .ok (.aload_n 0, 1) := by decide +kernel
theorem d_X11_over_48 : decode mX11_over.2.2.1 48 = .ok (.getfield 63, 3) := by decide +kernel
theorem d_X11_over_51 : decode mX11_over.2.2.1 51 = .ok (.aload_n 0, 1) := by decide +kernel
theorem d_X11_over_52 : decode mX11_over.2.2.1 52 = .ok (.getfield 50, 3) := by decide +kernel
theorem d_X11_over_55 : decode mX11_over.2.2.1 55 = .ok (.getfield 155, 3) := by decide +kernel
theorem f_11_155 : e_fld 11 155 6 10 18 0 false := ⟨RX6, TX6, 10, rfl, rfl, by decide, rfl, rfl, rfl, iX6, tblG_in (inT2 (List.mem_of_getElem? (i := 114) rfl)) rfl, tyX6_ok, nmX6⟩
theorem d_X11_over_58 : decode mX11_over.2.2.1 58 = .ok (.iload_n 3, 1) := by decide +kernel
theorem d_X11_over_59 : decode mX11_over.2.2.1 59 = .ok (.ifCond .ne 7, 3) := by decide +kernel
theorem d_X11_over_62 : decode mX11_over.2.2.1 62 = .ok (.iconst 1, 1) := by decide +kernel
theorem d_X11_over_63 : decode mX11_over.2.2.1 63 = .ok (.goto 4, 3) := by decide +kernel
theorem d_X11_over_67 : decode mX11_over.2.2.1 67 = .ok (.invokevirtual 256, 3) := by decide +kernel
def mX10_compare : MD := (10, yX10_compare, cX10_compare, 3, none)
theorem sel_X10_compare : Cond.instanceMethod mX10_compare.2.1 ∈ tblG ∧ Cond.selects mX10_compare.2.1.cls mX10_compare.2.1 mX10_compare.2.1 ∈ tblG := ⟨tblG_in (inT6 (List.mem_of_getElem? (i := 63) rfl)) rfl, tblG_in (inT6 (List.mem_of_getElem? (i := 64) rfl)) rfl⟩
theorem s_11_256 : e_siteV 11 256 mX10_compare 10 := ⟨tblG_in (inT6 (List.mem_of_getElem? (i := 62) rfl)) rfl, sel_X10_compare.1, sel_X10_compare.2, rfl⟩
theorem ok_X10_compare : e_m mX10_compare 2 := ⟨tblG_in (inT6 (List.mem_of_getElem? (i := 65) rfl)) rfl, by decide, rfl, ini_10, by decide +kernel, by decide⟩
theorem d_X10_compare_0 : decode mX10_compare.2.2.1 0 = .ok (.iload_n 2, 1) := by decide +kernel
theorem d_X10_compare_1 : decode mX10_compare.2.2.1 1 = .ok (.ifCond .ne 11, 3) := by decide +kernel
theorem d_X10_compare_12 : decode mX10_compare.2.2.1 12 = .ok (.aload_n 0, 1) := by decide +kernel
theorem d_X10_compare_13 : decode mX10_compare.2.2.1 13 = .ok (.iload_n 1, 1) := by decide +kernel
theorem d_X10_compare_14 : decode mX10_compare.2.2.1 14 = .ok (.putfield 46, 3) := by decide +kernel
theorem f_10_46 : e_fld 10 46 10 2 7 0 false := ⟨RX10, TX10, 2, rfl, rfl, by decide, rfl, rfl, rfl, iX10, tblG_in (inT2 (List.mem_of_getElem? (i := 191) rfl)) rfl, tyX10_ok, nmX10⟩
theorem d_X10_compare_17 : decode mX10_compare.2.2.1 17 = .ok (.aload_n 0, 1) := by decide +kernel
theorem d_X10_compare_18 : decode mX10_compare.2.2.1 18 = .ok (.getfield 9, 3) := by decide +kernel
theorem d_X10_compare_21 : decode mX10_compare.2.2.1 21 = .ok (.iconst 0, 1) := by decide +kernel
theorem d_X10_compare_22 : decode mX10_compare.2.2.1 22 = .ok (.aload_n 0, 1) := by decide +kernel
theorem d_X10_compare_23 : decode mX10_compare.2.2.1 23 = .ok (.getfield 15, 3) := by decide +kernel
theorem d_X10_compare_26 : decode mX10_compare.2.2.1 26 = .ok (.iconst 0, 1) := by decide +kernel
theorem d_X10_compare_27 : decode mX10_compare.2.2.1 27 = .ok (.iconst 3, 1) := by decide +kernel
theorem d_X10_compare_28 : decode mX10_compare.2.2.1 28 = .ok (.invokestatic 36, 3) := by decide +kernel
theorem d_X10_compare_31 : decode mX10_compare.2.2.1 31 = .ok (.iload_n 2, 1) := by decide +kernel
theorem d_X10_compare_32 : decode mX10_compare.2.2.1 32 = .ok (.ifCond .ne 11, 3) := by decide +kernel
theorem d_X10_compare_43 : decode mX10_compare.2.2.1 43 = .ok (.aload_n 0, 1) := by decide +kernel
theorem d_X10_compare_44 : decode mX10_compare.2.2.1 44 = .ok (.iload_n 1, 1) := by decide +kernel
theorem d_X10_compare_45 : decode mX10_compare.2.2.1 45 = .ok (.putfield 50, 3) := by decide +kernel
theorem f_10_50 : e_fld 10 50 10 3 7 0 false := ⟨RX10, TX10, 3, rfl, rfl, by decide, rfl, rfl, rfl, iX10, tblG_in (inT2 (List.mem_of_getElem? (i := 192) rfl)) rfl, tyX10_ok, nmX10⟩
theorem d_X10_compare_48 : decode mX10_compare.2.2.1 48 = .ok (.aload_n 0, 1) := by decide +kernel
theorem d_X10_compare_49 : decode mX10_compare.2.2.1 49 = .ok (.getfield 9, 3) := by decide +kernel
theorem d_X10_compare_52 : decode mX10_compare.2.2.1 52 = .ok (.iconst 0, 1) := by decide +kernel
theorem d_X10_compare_53 : decode mX10_compare.2.2.1 53 = .ok (.aload_n 0, 1) := by decide +kernel
theorem d_X10_compare_54 : decode mX10_compare.2.2.1 54 = .ok (.getfield 18, 3) := by decide +kernel
theorem d_X10_compare_57 : decode mX10_compare.2.2.1 57 = .ok (.iconst 0, 1) := by decide +kernel
theorem d_X10_compare_58 : decode mX10_compare.2.2.1 58 = .ok (.iconst 3, 1) := by decide +kernel
theorem d_X10_compare_59 : decode mX10_compare.2.2.1 59 = .ok (.invokestatic 36, 3) := by decide +kernel
theorem d_X10_compare_62 : decode mX10_compare.2.2.1 62 = .ok (.return_, 1) := by decide +kernel
theorem d_X11_over_70 : decode mX11_over.2.2.1 70 = .ok (.aload_n 0, 1) := by decide +kernel
theorem d_X11_over_71 : decode mX11_over.2.2.1 71 = .ok (.getfield 63, 3) := by decide +kernel
theorem d_X11_over_74 : decode mX11_over.2.2.1 74 = .ok (.aload_n 0, 1) := by decide +kernel
theorem d_X11_over_75 : decode mX11_over.2.2.1 75 = .ok (.getfield 30, 3) := by decide +kernel
theorem d_X11_over_78 : decode mX11_over.2.2.1 78 = .ok (.invokevirtual 260, 3) := by decide +kernel
def mX10_turnOn : MD := (10, yX10_turnOn, cX10_turnOn, 3, none)
theorem sel_X10_turnOn : Cond.instanceMethod mX10_turnOn.2.1 ∈ tblG ∧ Cond.selects mX10_turnOn.2.1.cls mX10_turnOn.2.1 mX10_turnOn.2.1 ∈ tblG := ⟨tblG_in (inT6 (List.mem_of_getElem? (i := 67) rfl)) rfl, tblG_in (inT6 (List.mem_of_getElem? (i := 68) rfl)) rfl⟩
theorem s_11_260 : e_siteV 11 260 mX10_turnOn 10 := ⟨tblG_in (inT6 (List.mem_of_getElem? (i := 66) rfl)) rfl, sel_X10_turnOn.1, sel_X10_turnOn.2, rfl⟩
theorem ok_X10_turnOn : e_m mX10_turnOn 1 := ⟨tblG_in (inT6 (List.mem_of_getElem? (i := 69) rfl)) rfl, by decide, rfl, ini_10, by decide +kernel, by decide⟩
theorem d_X10_turnOn_0 : decode mX10_turnOn.2.2.1 0 = .ok (.aload_n 1, 1) := by decide +kernel
theorem d_X10_turnOn_1 : decode mX10_turnOn.2.2.1 1 = .ok (.getfield 25, 3) := by decide +kernel
theorem d_X10_turnOn_4 : decode mX10_turnOn.2.2.1 4 = .ok (.iconst 1, 1) := by decide +kernel
theorem d_X10_turnOn_5 : decode mX10_turnOn.2.2.1 5 = .ok (.iaload, 1) := by decide +kernel
theorem d_X10_turnOn_6 : decode mX10_turnOn.2.2.1 6 = .ok (.iconst 1, 1) := by decide +kernel
theorem d_X10_turnOn_7 : decode mX10_turnOn.2.2.1 7 = .ok (.isub, 1) := by decide +kernel
theorem d_X10_turnOn_8 : decode mX10_turnOn.2.2.1 8 = .ok (.istore_n 2, 1) := by decide +kernel
theorem d_X10_turnOn_9 : decode mX10_turnOn.2.2.1 9 = .ok (.iload_n 2, 1) := by decide +kernel
theorem d_X10_turnOn_10 : decode mX10_turnOn.2.2.1 10 = .ok (.ifCond .lt 47, 3) := by decide +kernel
theorem d_X10_turnOn_57 : decode mX10_turnOn.2.2.1 57 = .ok (.return_, 1) := by decide +kernel
theorem d_X11_over_81 : decode mX11_over.2.2.1 81 = .ok (.iinc 3 1, 3) := by decide +kernel
theorem d_X11_over_84 : decode mX11_over.2.2.1 84 = .ok (.goto (-61), 3) := by decide +kernel
theorem d_X11_over_87 : decode mX11_over.2.2.1 87 = .ok (.aload_n 0, 1) := by decide +kernel
theorem d_X11_over_88 : decode mX11_over.2.2.1 88 = .ok (.getfield 63, 3) := by decide +kernel
theorem d_X11_over_91 : decode mX11_over.2.2.1 91 = .ok (.iload_n 1, 1) := by decide +kernel
theorem d_X11_over_92 : decode mX11_over.2.2.1 92 = .ok (.invokevirtual 264, 3) := by decide +kernel
def mX10_choose : MD := (10, yX10_choose, cX10_choose, 2, some .int)
theorem sel_X10_choose : Cond.instanceMethod mX10_choose.2.1 ∈ tblG ∧ Cond.selects mX10_choose.2.1.cls mX10_choose.2.1 mX10_choose.2.1 ∈ tblG := ⟨tblG_in (inT6 (List.mem_of_getElem? (i := 71) rfl)) rfl, tblG_in (inT6 (List.mem_of_getElem? (i := 72) rfl)) rfl⟩
theorem s_11_264 : e_siteV 11 264 mX10_choose 10 := ⟨tblG_in (inT6 (List.mem_of_getElem? (i := 70) rfl)) rfl, sel_X10_choose.1, sel_X10_choose.2, rfl⟩
theorem ok_X10_choose : e_m mX10_choose 1 := ⟨tblG_in (inT6 (List.mem_of_getElem? (i := 73) rfl)) rfl, by decide, rfl, ini_10, by decide +kernel, by decide⟩
theorem d_X10_choose_0 : decode mX10_choose.2.2.1 0 = .ok (.aload_n 0, 1) := by decide +kernel
theorem d_X10_choose_1 : decode mX10_choose.2.2.1 1 = .ok (.iconst 1, 1) := by decide +kernel
theorem d_X10_choose_2 : decode mX10_choose.2.2.1 2 = .ok (.putfield 21, 3) := by decide +kernel
theorem d_X10_choose_5 : decode mX10_choose.2.2.1 5 = .ok (.aload_n 0, 1) := by decide +kernel
theorem d_X10_choose_6 : decode mX10_choose.2.2.1 6 = .ok (.iload_n 1, 1) := by decide +kernel
theorem d_X10_choose_7 : decode mX10_choose.2.2.1 7 = .ok (.putfield 52, 3) := by decide +kernel
theorem f_10_52 : e_fld 10 52 10 1 7 3 false := ⟨RX10, TX10, 1, rfl, rfl, by decide, rfl, rfl, rfl, iX10, tblG_in (inT2 (List.mem_of_getElem? (i := 190) rfl)) rfl, tyX10_ok, nmX10⟩
theorem d_X10_choose_10 : decode mX10_choose.2.2.1 10 = .ok (.iload_n 1, 1) := by decide +kernel
theorem d_X10_choose_11 : decode mX10_choose.2.2.1 11 = .ok (.ifCond .eq 10, 3) := by decide +kernel
theorem d_X10_choose_21 : decode mX10_choose.2.2.1 21 = .ok (.aload_n 0, 1) := by decide +kernel
theorem d_X10_choose_22 : decode mX10_choose.2.2.1 22 = .ok (.getfield 50, 3) := by decide +kernel
theorem d_X10_choose_25 : decode mX10_choose.2.2.1 25 = .ok (.ireturn, 1) := by decide +kernel
theorem d_X11_over_95 : decode mX11_over.2.2.1 95 = .ok (.ireturn, 1) := by decide +kernel
def mX12_over : MD := (12, yX12_over, cX12_over, 10, some .int)
theorem sel_X12_over : Cond.instanceMethod mX12_over.2.1 ∈ tblG ∧ Cond.selects mX12_over.2.1.cls mX12_over.2.1 mX12_over.2.1 ∈ tblG := ⟨tblG_in (inT9 (List.mem_of_getElem? (i := 217) rfl)) rfl, tblG_in (inT9 (List.mem_of_getElem? (i := 218) rfl)) rfl⟩
theorem s_13_94 : e_siteV 13 94 mX12_over 12 := ⟨tblG_in (inT9 (List.mem_of_getElem? (i := 216) rfl)) rfl, sel_X12_over.1, sel_X12_over.2, rfl⟩
theorem ok_X12_over : e_m mX12_over 1 := ⟨tblG_in (inT9 (List.mem_of_getElem? (i := 219) rfl)) rfl, by decide, rfl, ini_12, by decide +kernel, by decide⟩
theorem d_X12_over_0 : decode mX12_over.2.2.1 0 = .ok (.aload_n 0, 1) := by decide +kernel
theorem d_X12_over_1 : decode mX12_over.2.2.1 1 = .ok (.iconst 0, 1) := by decide +kernel
theorem d_X12_over_2 : decode mX12_over.2.2.1 2 = .ok (.invokevirtual 680, 3) := by decide +kernel
def mX12_span : MD := (12, yX12_span, cX12_span, 2, some .int)
theorem sel_X12_span : Cond.instanceMethod mX12_span.2.1 ∈ tblG ∧ Cond.selects mX12_span.2.1.cls mX12_span.2.1 mX12_span.2.1 ∈ tblG := ⟨tblG_in (inT9 (List.mem_of_getElem? (i := 222) rfl)) rfl, tblG_in (inP9 (q := (mX12_span.2.1, 121)) (List.mem_of_getElem? (i := 4) rfl)) rfl⟩
theorem s_12_680 : e_siteV 12 680 mX12_span 12 := ⟨tblG_in (inT9 (List.mem_of_getElem? (i := 220) rfl)) rfl, sel_X12_span.1, sel_X12_span.2, rfl⟩
theorem ok_X12_span : e_m mX12_span 1 := ⟨tblG_in (inT9 (List.mem_of_getElem? (i := 223) rfl)) rfl, by decide, rfl, ini_12, by decide +kernel, by decide⟩
theorem d_X12_span_0 : decode mX12_span.2.2.1 0 = .ok (.iload_n 1, 1) := by decide +kernel
theorem d_X12_span_1 : decode mX12_span.2.2.1 1 = .ok (.aload_n 0, 1) := by decide +kernel
theorem d_X12_span_2 : decode mX12_span.2.2.1 2 = .ok (.getfield 66, 3) := by decide +kernel
theorem d_X12_span_5 : decode mX12_span.2.2.1 5 = .ok (.aload_n 0, 1) := by decide +kernel
theorem d_X12_span_6 : decode mX12_span.2.2.1 6 = .ok (.getfield 48, 3) := by decide +kernel
theorem d_X12_span_9 : decode mX12_span.2.2.1 9 = .ok (.iaload, 1) := by decide +kernel
theorem d_X12_span_10 : decode mX12_span.2.2.1 10 = .ok (.if_icmp .ge 35, 3) := by decide +kernel
theorem d_X12_span_45 : decode mX12_span.2.2.1 45 = .ok (.iconst 1, 1) := by decide +kernel
theorem d_X12_span_46 : decode mX12_span.2.2.1 46 = .ok (.ireturn, 1) := by decide +kernel
theorem d_X12_over_5 : decode mX12_over.2.2.1 5 = .ok (.aload_n 0, 1) := by decide +kernel
theorem d_X12_over_6 : decode mX12_over.2.2.1 6 = .ok (.iconst 1, 1) := by decide +kernel
theorem d_X12_over_7 : decode mX12_over.2.2.1 7 = .ok (.invokevirtual 680, 3) := by decide +kernel
theorem d_X12_over_10 : decode mX12_over.2.2.1 10 = .ok (.imul, 1) := by decide +kernel
theorem d_X12_over_11 : decode mX12_over.2.2.1 11 = .ok (.aload_n 0, 1) := by decide +kernel
theorem d_X12_over_12 : decode mX12_over.2.2.1 12 = .ok (.iconst 2, 1) := by decide +kernel
theorem d_X12_over_13 : decode mX12_over.2.2.1 13 = .ok (.invokevirtual 680, 3) := by decide +kernel
theorem d_X12_over_16 : decode mX12_over.2.2.1 16 = .ok (.imul, 1) := by decide +kernel
theorem d_X12_over_17 : decode mX12_over.2.2.1 17 = .ok (.sipush 256, 3) := by decide +kernel
theorem d_X12_over_20 : decode mX12_over.2.2.1 20 = .ok (.if_icmp .le 5, 3) := by decide +kernel
theorem d_X12_over_25 : decode mX12_over.2.2.1 25 = .ok (.lconst 0, 1) := by decide +kernel
theorem d_X12_over_26 : decode mX12_over.2.2.1 26 = .ok (.lstore_n 2, 1) := by decide +kernel
theorem d_X12_over_27 : decode mX12_over.2.2.1 27 = .ok (.iconst 0, 1) := by decide +kernel
theorem d_X12_over_28 : decode mX12_over.2.2.1 28 = .ok (.istore 4, 2) := by decide +kernel
theorem d_X12_over_30 : decode mX12_over.2.2.1 30 = .ok (.iconst 0, 1) := by decide +kernel
theorem d_X12_over_31 : decode mX12_over.2.2.1 31 = .ok (.istore 5, 2) := by decide +kernel
theorem d_X12_over_33 : decode mX12_over.2.2.1 33 = .ok (.iload 5, 2) := by decide +kernel
theorem d_X12_over_35 : decode mX12_over.2.2.1 35 = .ok (.aload_n 0, 1) := by decide +kernel
theorem d_X12_over_36 : decode mX12_over.2.2.1 36 = .ok (.iconst 0, 1) := by decide +kernel
theorem d_X12_over_37 : decode mX12_over.2.2.1 37 = .ok (.invokevirtual 680, 3) := by decide +kernel
theorem d_X12_over_40 : decode mX12_over.2.2.1 40 = .ok (.if_icmp .ge 168, 3) := by decide +kernel
theorem d_X12_over_43 : decode mX12_over.2.2.1 43 = .ok (.iconst 0, 1) := by decide +kernel
theorem d_X12_over_44 : decode mX12_over.2.2.1 44 = .ok (.istore 6, 2) := by decide +kernel
theorem d_X12_over_46 : decode mX12_over.2.2.1 46 = .ok (.iload 6, 2) := by decide +kernel
theorem d_X12_over_48 : decode mX12_over.2.2.1 48 = .ok (.aload_n 0, 1) := by decide +kernel
theorem d_X12_over_49 : decode mX12_over.2.2.1 49 = .ok (.iconst 1, 1) := by decide +kernel
theorem d_X12_over_50 : decode mX12_over.2.2.1 50 = .ok (.invokevirtual 680, 3) := by decide +kernel
theorem d_X12_over_53 : decode mX12_over.2.2.1 53 = .ok (.if_icmp .ge 149, 3) := by decide +kernel
theorem d_X12_over_56 : decode mX12_over.2.2.1 56 = .ok (.iconst 0, 1) := by decide +kernel
theorem d_X12_over_57 : decode mX12_over.2.2.1 57 = .ok (.istore 7, 2) := by decide +kernel
theorem d_X12_over_59 : decode mX12_over.2.2.1 59 = .ok (.iload 7, 2) := by decide +kernel
theorem d_X12_over_61 : decode mX12_over.2.2.1 61 = .ok (.aload_n 0, 1) := by decide +kernel
theorem d_X12_over_62 : decode mX12_over.2.2.1 62 = .ok (.iconst 2, 1) := by decide +kernel
theorem d_X12_over_63 : decode mX12_over.2.2.1 63 = .ok (.invokevirtual 680, 3) := by decide +kernel
theorem d_X12_over_66 : decode mX12_over.2.2.1 66 = .ok (.if_icmp .ge 130, 3) := by decide +kernel
theorem d_X12_over_69 : decode mX12_over.2.2.1 69 = .ok (.aload_n 0, 1) := by decide +kernel
theorem d_X12_over_70 : decode mX12_over.2.2.1 70 = .ok (.getfield 171, 3) := by decide +kernel
theorem d_X12_over_73 : decode mX12_over.2.2.1 73 = .ok (.iconst 0, 1) := by decide +kernel
theorem d_X12_over_74 : decode mX12_over.2.2.1 74 = .ok (.aload_n 0, 1) := by decide +kernel
theorem d_X12_over_75 : decode mX12_over.2.2.1 75 = .ok (.iconst 0, 1) := by decide +kernel
theorem d_X12_over_76 : decode mX12_over.2.2.1 76 = .ok (.invokevirtual 683, 3) := by decide +kernel
def mX12_lowOf : MD := (12, yX12_lowOf, cX12_lowOf, 2, some .int)
theorem sel_X12_lowOf : Cond.instanceMethod mX12_lowOf.2.1 ∈ tblG ∧ Cond.selects mX12_lowOf.2.1.cls mX12_lowOf.2.1 mX12_lowOf.2.1 ∈ tblG := ⟨tblG_in (inT9 (List.mem_of_getElem? (i := 226) rfl)) rfl, tblG_in (inP9 (q := (mX12_lowOf.2.1, 121)) (List.mem_of_getElem? (i := 5) rfl)) rfl⟩
theorem s_12_683 : e_siteV 12 683 mX12_lowOf 12 := ⟨tblG_in (inT9 (List.mem_of_getElem? (i := 224) rfl)) rfl, sel_X12_lowOf.1, sel_X12_lowOf.2, rfl⟩
theorem ok_X12_lowOf : e_m mX12_lowOf 1 := ⟨tblG_in (inT9 (List.mem_of_getElem? (i := 227) rfl)) rfl, by decide, rfl, ini_12, by decide +kernel, by decide⟩
theorem d_X12_lowOf_0 : decode mX12_lowOf.2.2.1 0 = .ok (.iload_n 1, 1) := by decide +kernel
theorem d_X12_lowOf_1 : decode mX12_lowOf.2.2.1 1 = .ok (.aload_n 0, 1) := by decide +kernel
theorem d_X12_lowOf_2 : decode mX12_lowOf.2.2.1 2 = .ok (.getfield 66, 3) := by decide +kernel
theorem d_X12_lowOf_5 : decode mX12_lowOf.2.2.1 5 = .ok (.aload_n 0, 1) := by decide +kernel
theorem d_X12_lowOf_6 : decode mX12_lowOf.2.2.1 6 = .ok (.getfield 48, 3) := by decide +kernel
theorem d_X12_lowOf_9 : decode mX12_lowOf.2.2.1 9 = .ok (.iaload, 1) := by decide +kernel
theorem d_X12_lowOf_10 : decode mX12_lowOf.2.2.1 10 = .ok (.if_icmp .ge 19, 3) := by decide +kernel
theorem d_X12_lowOf_29 : decode mX12_lowOf.2.2.1 29 = .ok (.iconst 0, 1) := by decide +kernel
theorem d_X12_lowOf_30 : decode mX12_lowOf.2.2.1 30 = .ok (.ireturn, 1) := by decide +kernel
theorem d_X12_over_79 : decode mX12_over.2.2.1 79 = .ok (.iload 5, 2) := by decide +kernel
theorem d_X12_over_81 : decode mX12_over.2.2.1 81 = .ok (.iadd, 1) := by decide +kernel
theorem d_X12_over_82 : decode mX12_over.2.2.1 82 = .ok (.iastore, 1) := by decide +kernel
theorem d_X12_over_83 : decode mX12_over.2.2.1 83 = .ok (.aload_n 0, 1) := by decide +kernel
theorem d_X12_over_84 : decode mX12_over.2.2.1 84 = .ok (.getfield 171, 3) := by decide +kernel
theorem d_X12_over_87 : decode mX12_over.2.2.1 87 = .ok (.iconst 1, 1) := by decide +kernel
theorem d_X12_over_88 : decode mX12_over.2.2.1 88 = .ok (.aload_n 0, 1) := by decide +kernel
theorem d_X12_over_89 : decode mX12_over.2.2.1 89 = .ok (.iconst 1, 1) := by decide +kernel
theorem d_X12_over_90 : decode mX12_over.2.2.1 90 = .ok (.invokevirtual 683, 3) := by decide +kernel
theorem d_X12_over_93 : decode mX12_over.2.2.1 93 = .ok (.iload 6, 2) := by decide +kernel
theorem d_X12_over_95 : decode mX12_over.2.2.1 95 = .ok (.iadd, 1) := by decide +kernel
theorem d_X12_over_96 : decode mX12_over.2.2.1 96 = .ok (.iastore, 1) := by decide +kernel
theorem d_X12_over_97 : decode mX12_over.2.2.1 97 = .ok (.aload_n 0, 1) := by decide +kernel
theorem d_X12_over_98 : decode mX12_over.2.2.1 98 = .ok (.getfield 171, 3) := by decide +kernel
theorem d_X12_over_101 : decode mX12_over.2.2.1 101 = .ok (.iconst 2, 1) := by decide +kernel
theorem d_X12_over_102 : decode mX12_over.2.2.1 102 = .ok (.aload_n 0, 1) := by decide +kernel
theorem d_X12_over_103 : decode mX12_over.2.2.1 103 = .ok (.iconst 2, 1) := by decide +kernel
theorem d_X12_over_104 : decode mX12_over.2.2.1 104 = .ok (.invokevirtual 683, 3) := by decide +kernel
theorem d_X12_over_107 : decode mX12_over.2.2.1 107 = .ok (.iload 7, 2) := by decide +kernel
theorem d_X12_over_109 : decode mX12_over.2.2.1 109 = .ok (.iadd, 1) := by decide +kernel
theorem d_X12_over_110 : decode mX12_over.2.2.1 110 = .ok (.iastore, 1) := by decide +kernel
theorem d_X12_over_111 : decode mX12_over.2.2.1 111 = .ok (.aload_n 0, 1) := by decide +kernel
theorem d_X12_over_112 : decode mX12_over.2.2.1 112 = .ok (.ldc2_w 686, 3) := by decide +kernel
theorem kl_12_686 : Jvm.Cond.constantLong (e_cn 12) 686 (Int64.ofInt (-1)) ∈ tblG := tblG_in (inT9 (List.mem_of_getElem? (i := 228) rfl)) rfl
theorem d_X12_over_115 : decode mX12_over.2.2.1 115 = .ok (.invokevirtual 637, 3) := by decide +kernel
theorem d_X12_over_118 : decode mX12_over.2.2.1 118 = .ok (.istore 8, 2) := by decide +kernel
theorem d_X12_over_120 : decode mX12_over.2.2.1 120 = .ok (.iload 4, 2) := by decide +kernel
theorem d_X12_over_122 : decode mX12_over.2.2.1 122 = .ok (.ifCond .eq 31, 3) := by decide +kernel
theorem d_X12_over_153 : decode mX12_over.2.2.1 153 = .ok (.iconst 1, 1) := by decide +kernel
theorem d_X12_over_154 : decode mX12_over.2.2.1 154 = .ok (.istore 4, 2) := by decide +kernel
theorem d_X12_over_156 : decode mX12_over.2.2.1 156 = .ok (.aload_n 0, 1) := by decide +kernel
theorem d_X12_over_157 : decode mX12_over.2.2.1 157 = .ok (.getfield 204, 3) := by decide +kernel
theorem d_X12_over_160 : decode mX12_over.2.2.1 160 = .ok (.lstore_n 2, 1) := by decide +kernel
theorem d_X12_over_161 : decode mX12_over.2.2.1 161 = .ok (.iconst 0, 1) := by decide +kernel
theorem d_X12_over_162 : decode mX12_over.2.2.1 162 = .ok (.istore 9, 2) := by decide +kernel
theorem d_X12_over_164 : decode mX12_over.2.2.1 164 = .ok (.iload 9, 2) := by decide +kernel
theorem d_X12_over_166 : decode mX12_over.2.2.1 166 = .ok (.iconst 3, 1) := by decide +kernel
theorem d_X12_over_167 : decode mX12_over.2.2.1 167 = .ok (.if_icmp .ge 23, 3) := by decide +kernel
theorem d_X12_over_170 : decode mX12_over.2.2.1 170 = .ok (.aload_n 0, 1) := by decide +kernel
theorem d_X12_over_171 : decode mX12_over.2.2.1 171 = .ok (.getfield 330, 3) := by decide +kernel
theorem d_X12_over_174 : decode mX12_over.2.2.1 174 = .ok (.iload 9, 2) := by decide +kernel
theorem d_X12_over_176 : decode mX12_over.2.2.1 176 = .ok (.aload_n 0, 1) := by decide +kernel
theorem d_X12_over_177 : decode mX12_over.2.2.1 177 = .ok (.getfield 171, 3) := by decide +kernel
theorem d_X12_over_180 : decode mX12_over.2.2.1 180 = .ok (.iload 9, 2) := by decide +kernel
theorem d_X12_over_182 : decode mX12_over.2.2.1 182 = .ok (.iaload, 1) := by decide +kernel
theorem d_X12_over_183 : decode mX12_over.2.2.1 183 = .ok (.iastore, 1) := by decide +kernel
theorem d_X12_over_184 : decode mX12_over.2.2.1 184 = .ok (.iinc 9 1, 3) := by decide +kernel
theorem d_X12_over_187 : decode mX12_over.2.2.1 187 = .ok (.goto (-23), 3) := by decide +kernel
theorem d_X12_over_190 : decode mX12_over.2.2.1 190 = .ok (.iinc 7 1, 3) := by decide +kernel
theorem d_X12_over_193 : decode mX12_over.2.2.1 193 = .ok (.goto (-134), 3) := by decide +kernel
theorem d_X12_over_196 : decode mX12_over.2.2.1 196 = .ok (.iinc 6 1, 3) := by decide +kernel
theorem d_X12_over_199 : decode mX12_over.2.2.1 199 = .ok (.goto (-153), 3) := by decide +kernel
theorem d_X12_over_202 : decode mX12_over.2.2.1 202 = .ok (.iinc 5 1, 3) := by decide +kernel
theorem d_X12_over_205 : decode mX12_over.2.2.1 205 = .ok (.goto (-172), 3) := by decide +kernel
theorem d_X12_over_208 : decode mX12_over.2.2.1 208 = .ok (.aload_n 0, 1) := by decide +kernel
theorem d_X12_over_209 : decode mX12_over.2.2.1 209 = .ok (.iconst 1, 1) := by decide +kernel
theorem d_X12_over_210 : decode mX12_over.2.2.1 210 = .ok (.putfield 327, 3) := by decide +kernel
theorem d_X12_over_213 : decode mX12_over.2.2.1 213 = .ok (.lload_n 2, 1) := by decide +kernel
theorem d_X12_over_214 : decode mX12_over.2.2.1 214 = .ok (.l2i, 1) := by decide +kernel
theorem d_X12_over_215 : decode mX12_over.2.2.1 215 = .ok (.ireturn, 1) := by decide +kernel
theorem d_X10_choose_14 : decode mX10_choose.2.2.1 14 = .ok (.aload_n 0, 1) := by decide +kernel
theorem d_X10_choose_15 : decode mX10_choose.2.2.1 15 = .ok (.getfield 46, 3) := by decide +kernel
theorem d_X10_choose_18 : decode mX10_choose.2.2.1 18 = .ok (.goto 7, 3) := by decide +kernel
def mX11_where : MD := (11, yX11_where, cX11_where, 2, some .int)
theorem sel_X11_where : Cond.instanceMethod mX11_where.2.1 ∈ tblG ∧ Cond.selects mX11_where.2.1.cls mX11_where.2.1 mX11_where.2.1 ∈ tblG := ⟨tblG_in (inT6 (List.mem_of_getElem? (i := 75) rfl)) rfl, tblG_in (inT6 (List.mem_of_getElem? (i := 76) rfl)) rfl⟩
theorem s_13_95 : e_siteV 13 95 mX11_where 11 := ⟨tblG_in (inT6 (List.mem_of_getElem? (i := 74) rfl)) rfl, sel_X11_where.1, sel_X11_where.2, rfl⟩
theorem ok_X11_where : e_m mX11_where 1 := ⟨tblG_in (inT6 (List.mem_of_getElem? (i := 77) rfl)) rfl, by decide, rfl, ini_11, by decide +kernel, by decide⟩
theorem d_X11_where_0 : decode mX11_where.2.2.1 0 = .ok (.iload_n 1, 1) := by decide +kernel
theorem d_X11_where_1 : decode mX11_where.2.2.1 1 = .ok (.ifCond .lt 16, 3) := by decide +kernel
theorem d_X11_where_17 : decode mX11_where.2.2.1 17 = .ok (.iconst (-1), 1) := by decide +kernel
theorem d_X11_where_18 : decode mX11_where.2.2.1 18 = .ok (.ireturn, 1) := by decide +kernel
def mX12_where : MD := (12, yX12_where, cX12_where, 2, some .int)
theorem sel_X12_where : Cond.instanceMethod mX12_where.2.1 ∈ tblG ∧ Cond.selects mX12_where.2.1.cls mX12_where.2.1 mX12_where.2.1 ∈ tblG := ⟨tblG_in (inT9 (List.mem_of_getElem? (i := 230) rfl)) rfl, tblG_in (inT9 (List.mem_of_getElem? (i := 231) rfl)) rfl⟩
theorem s_13_98 : e_siteV 13 98 mX12_where 12 := ⟨tblG_in (inT9 (List.mem_of_getElem? (i := 229) rfl)) rfl, sel_X12_where.1, sel_X12_where.2, rfl⟩
theorem ok_X12_where : e_m mX12_where 1 := ⟨tblG_in (inT9 (List.mem_of_getElem? (i := 232) rfl)) rfl, by decide, rfl, ini_12, by decide +kernel, by decide⟩
theorem d_X12_where_0 : decode mX12_where.2.2.1 0 = .ok (.aload_n 0, 1) := by decide +kernel
theorem d_X12_where_1 : decode mX12_where.2.2.1 1 = .ok (.getfield 327, 3) := by decide +kernel
theorem d_X12_where_4 : decode mX12_where.2.2.1 4 = .ok (.ifCond .eq 20, 3) := by decide +kernel
theorem d_X12_where_24 : decode mX12_where.2.2.1 24 = .ok (.iconst (-1), 1) := by decide +kernel
theorem d_X12_where_25 : decode mX12_where.2.2.1 25 = .ok (.ireturn, 1) := by decide +kernel
theorem d_X11_where_4 : decode mX11_where.2.2.1 4 = .ok (.iload_n 1, 1) := by decide +kernel
theorem d_X11_where_5 : decode mX11_where.2.2.1 5 = .ok (.aload_n 0, 1) := by decide +kernel
theorem d_X11_where_6 : decode mX11_where.2.2.1 6 = .ok (.getfield 30, 3) := by decide +kernel
theorem d_X11_where_9 : decode mX11_where.2.2.1 9 = .ok (.getfield 130, 3) := by decide +kernel
theorem d_X11_where_12 : decode mX11_where.2.2.1 12 = .ok (.iconst 1, 1) := by decide +kernel
theorem d_X11_where_13 : decode mX11_where.2.2.1 13 = .ok (.iaload, 1) := by decide +kernel
theorem d_X11_where_14 : decode mX11_where.2.2.1 14 = .ok (.if_icmp .lt 5, 3) := by decide +kernel
def mX11_measure : MD := (11, yX11_measure, cX11_measure, 2, some .int)
theorem sel_X11_measure : Cond.instanceMethod mX11_measure.2.1 ∈ tblG ∧ Cond.selects mX11_measure.2.1.cls mX11_measure.2.1 mX11_measure.2.1 ∈ tblG := ⟨tblG_in (inT6 (List.mem_of_getElem? (i := 83) rfl)) rfl, tblG_in (inT6 (List.mem_of_getElem? (i := 84) rfl)) rfl⟩
theorem s_13_99 : e_siteV 13 99 mX11_measure 11 := ⟨tblG_in (inT6 (List.mem_of_getElem? (i := 82) rfl)) rfl, sel_X11_measure.1, sel_X11_measure.2, rfl⟩
theorem ok_X11_measure : e_m mX11_measure 1 := ⟨tblG_in (inT6 (List.mem_of_getElem? (i := 85) rfl)) rfl, by decide, rfl, ini_11, by decide +kernel, by decide⟩
theorem d_X11_measure_0 : decode mX11_measure.2.2.1 0 = .ok (.iload_n 1, 1) := by decide +kernel
theorem d_X11_measure_1 : decode mX11_measure.2.2.1 1 = .ok (.ifCond .lt 22, 3) := by decide +kernel
theorem d_X11_measure_23 : decode mX11_measure.2.2.1 23 = .ok (.iconst (-1), 1) := by decide +kernel
theorem d_X11_measure_24 : decode mX11_measure.2.2.1 24 = .ok (.ireturn, 1) := by decide +kernel
def mX12_measure : MD := (12, yX12_measure, cX12_measure, 3, some .int)
theorem sel_X12_measure : Cond.instanceMethod mX12_measure.2.1 ∈ tblG ∧ Cond.selects mX12_measure.2.1.cls mX12_measure.2.1 mX12_measure.2.1 ∈ tblG := ⟨tblG_in (inT9 (List.mem_of_getElem? (i := 234) rfl)) rfl, tblG_in (inT9 (List.mem_of_getElem? (i := 235) rfl)) rfl⟩
theorem s_13_102 : e_siteV 13 102 mX12_measure 12 := ⟨tblG_in (inT9 (List.mem_of_getElem? (i := 233) rfl)) rfl, sel_X12_measure.1, sel_X12_measure.2, rfl⟩
theorem ok_X12_measure : e_m mX12_measure 1 := ⟨tblG_in (inT9 (List.mem_of_getElem? (i := 236) rfl)) rfl, by decide, rfl, ini_12, by decide +kernel, by decide⟩
theorem d_X12_measure_0 : decode mX12_measure.2.2.1 0 = .ok (.iload_n 1, 1) := by decide +kernel
theorem d_X12_measure_1 : decode mX12_measure.2.2.1 1 = .ok (.iconst 0, 1) := by decide +kernel
theorem d_X12_measure_2 : decode mX12_measure.2.2.1 2 = .ok (.ldc_w 688, 3) := by decide +kernel
theorem k_12_688 : Jvm.Cond.constant (e_cn 12) 688 (Int32.ofInt 10000000) ∈ tblG := tblG_in (inT9 (List.mem_of_getElem? (i := 237) rfl)) rfl
theorem d_X12_measure_5 : decode mX12_measure.2.2.1 5 = .ok (.invokestatic 467, 3) := by decide +kernel
theorem d_X12_measure_8 : decode mX12_measure.2.2.1 8 = .ok (.ifCond .eq 12, 3) := by decide +kernel
theorem d_X12_measure_20 : decode mX12_measure.2.2.1 20 = .ok (.iconst (-1), 1) := by decide +kernel
theorem d_X12_measure_21 : decode mX12_measure.2.2.1 21 = .ok (.ireturn, 1) := by decide +kernel
theorem d_X11_measure_4 : decode mX11_measure.2.2.1 4 = .ok (.iload_n 1, 1) := by decide +kernel
theorem d_X11_measure_5 : decode mX11_measure.2.2.1 5 = .ok (.ldc_w 271, 3) := by decide +kernel
theorem k_11_271 : Jvm.Cond.constant (e_cn 11) 271 (Int32.ofInt 10000000) ∈ tblG := tblG_in (inT6 (List.mem_of_getElem? (i := 86) rfl)) rfl
theorem d_X11_measure_8 : decode mX11_measure.2.2.1 8 = .ok (.if_icmp .gt 15, 3) := by decide +kernel
theorem d_X11_measure_11 : decode mX11_measure.2.2.1 11 = .ok (.aload_n 0, 1) := by decide +kernel
theorem d_X11_measure_12 : decode mX11_measure.2.2.1 12 = .ok (.getfield 70, 3) := by decide +kernel
theorem d_X11_measure_15 : decode mX11_measure.2.2.1 15 = .ok (.getfield 133, 3) := by decide +kernel
theorem d_X11_measure_18 : decode mX11_measure.2.2.1 18 = .ok (.bipush 12, 2) := by decide +kernel
theorem d_X11_measure_20 : decode mX11_measure.2.2.1 20 = .ok (.if_icmp .lt 5, 3) := by decide +kernel
theorem d_X11_measure_25 : decode mX11_measure.2.2.1 25 = .ok (.aload_n 0, 1) := by decide +kernel
theorem d_X11_measure_26 : decode mX11_measure.2.2.1 26 = .ok (.getfield 50, 3) := by decide +kernel
theorem d_X11_measure_29 : decode mX11_measure.2.2.1 29 = .ok (.aload_n 0, 1) := by decide +kernel
theorem d_X11_measure_30 : decode mX11_measure.2.2.1 30 = .ok (.getfield 30, 3) := by decide +kernel
theorem d_X11_measure_33 : decode mX11_measure.2.2.1 33 = .ok (.aload_n 0, 1) := by decide +kernel
theorem d_X11_measure_34 : decode mX11_measure.2.2.1 34 = .ok (.getfield 37, 3) := by decide +kernel
theorem d_X11_measure_37 : decode mX11_measure.2.2.1 37 = .ok (.iconst (-1), 1) := by decide +kernel
theorem d_X11_measure_38 : decode mX11_measure.2.2.1 38 = .ok (.invokevirtual 144, 3) := by decide +kernel
theorem d_X11_measure_41 : decode mX11_measure.2.2.1 41 = .ok (.aload_n 0, 1) := by decide +kernel
theorem d_X11_measure_42 : decode mX11_measure.2.2.1 42 = .ok (.getfield 70, 3) := by decide +kernel
theorem d_X11_measure_45 : decode mX11_measure.2.2.1 45 = .ok (.iload_n 1, 1) := by decide +kernel
theorem d_X11_measure_46 : decode mX11_measure.2.2.1 46 = .ok (.aload_n 0, 1) := by decide +kernel
theorem d_X11_measure_47 : decode mX11_measure.2.2.1 47 = .ok (.getfield 50, 3) := by decide +kernel
theorem d_X11_measure_50 : decode mX11_measure.2.2.1 50 = .ok (.invokevirtual 272, 3) := by decide +kernel
def mX2_add : MD := (2, yX2_add, cX2_add, 3, none)
theorem sel_X2_add : Cond.instanceMethod mX2_add.2.1 ∈ tblG ∧ Cond.selects mX2_add.2.1.cls mX2_add.2.1 mX2_add.2.1 ∈ tblG := ⟨tblG_in (inT6 (List.mem_of_getElem? (i := 88) rfl)) rfl, tblG_in (inT6 (List.mem_of_getElem? (i := 89) rfl)) rfl⟩
theorem s_11_272 : e_siteV 11 272 mX2_add 2 := ⟨tblG_in (inT6 (List.mem_of_getElem? (i := 87) rfl)) rfl, sel_X2_add.1, sel_X2_add.2, rfl⟩
theorem ok_X2_add : e_m mX2_add 2 := ⟨tblG_in (inT6 (List.mem_of_getElem? (i := 90) rfl)) rfl, by decide, rfl, ini_2, by decide +kernel, by decide⟩
theorem d_X2_add_0 : decode mX2_add.2.2.1 0 = .ok (.aload_n 0, 1) := by decide +kernel
theorem d_X2_add_1 : decode mX2_add.2.2.1 1 = .ok (.getfield 27, 3) := by decide +kernel
theorem d_X2_add_4 : decode mX2_add.2.2.1 4 = .ok (.bipush 12, 2) := by decide +kernel
theorem d_X2_add_6 : decode mX2_add.2.2.1 6 = .ok (.if_icmp .lt 4, 3) := by decide +kernel
theorem d_X2_add_10 : decode mX2_add.2.2.1 10 = .ok (.aload_n 0, 1) := by decide +kernel
theorem d_X2_add_11 : decode mX2_add.2.2.1 11 = .ok (.getfield 15, 3) := by decide +kernel
theorem d_X2_add_14 : decode mX2_add.2.2.1 14 = .ok (.aload_n 0, 1) := by decide +kernel
theorem d_X2_add_15 : decode mX2_add.2.2.1 15 = .ok (.getfield 27, 3) := by decide +kernel
theorem d_X2_add_18 : decode mX2_add.2.2.1 18 = .ok (.iload_n 1, 1) := by decide +kernel
theorem d_X2_add_19 : decode mX2_add.2.2.1 19 = .ok (.iastore, 1) := by decide +kernel
theorem d_X2_add_20 : decode mX2_add.2.2.1 20 = .ok (.aload_n 0, 1) := by decide +kernel
theorem d_X2_add_21 : decode mX2_add.2.2.1 21 = .ok (.getfield 18, 3) := by decide +kernel
theorem d_X2_add_24 : decode mX2_add.2.2.1 24 = .ok (.aload_n 0, 1) := by decide +kernel
theorem d_X2_add_25 : decode mX2_add.2.2.1 25 = .ok (.getfield 27, 3) := by decide +kernel
theorem d_X2_add_28 : decode mX2_add.2.2.1 28 = .ok (.aload_n 2, 1) := by decide +kernel
theorem d_X2_add_29 : decode mX2_add.2.2.1 29 = .ok (.getfield 35, 3) := by decide +kernel
theorem f_2_35 : e_fld 2 35 6 10 18 0 false := ⟨RX6, TX6, 10, rfl, rfl, by decide, rfl, rfl, rfl, iX6, tblG_in (inT2 (List.mem_of_getElem? (i := 112) rfl)) rfl, tyX6_ok, nmX6⟩
theorem d_X2_add_32 : decode mX2_add.2.2.1 32 = .ok (.iastore, 1) := by decide +kernel
theorem d_X2_add_33 : decode mX2_add.2.2.1 33 = .ok (.aload_n 2, 1) := by decide +kernel
theorem d_X2_add_34 : decode mX2_add.2.2.1 34 = .ok (.getfield 39, 3) := by decide +kernel
theorem f_2_39 : e_fld 2 39 6 0 18 2 true := ⟨RX6, TX6, 0, rfl, rfl, by decide, rfl, rfl, rfl, iX6, tblG_in (inT2 (List.mem_of_getElem? (i := 99) rfl)) rfl, tyX6_ok, nmX6⟩
theorem d_X2_add_37 : decode mX2_add.2.2.1 37 = .ok (.getfield 43, 3) := by decide +kernel
theorem f_2_43 : e_fld 2 43 1 2 9 2 true := ⟨RX1, TX1, 2, rfl, rfl, by decide, rfl, rfl, rfl, iX1, tblG_in (inT2 (List.mem_of_getElem? (i := 69) rfl)) rfl, tyX1_ok, nmX1⟩
theorem d_X2_add_40 : decode mX2_add.2.2.1 40 = .ok (.iconst 0, 1) := by decide +kernel
theorem d_X2_add_41 : decode mX2_add.2.2.1 41 = .ok (.aload_n 0, 1) := by decide +kernel
theorem d_X2_add_42 : decode mX2_add.2.2.1 42 = .ok (.getfield 21, 3) := by decide +kernel
theorem d_X2_add_45 : decode mX2_add.2.2.1 45 = .ok (.aload_n 0, 1) := by decide +kernel
theorem d_X2_add_46 : decode mX2_add.2.2.1 46 = .ok (.getfield 27, 3) := by decide +kernel
theorem d_X2_add_49 : decode mX2_add.2.2.1 49 = .ok (.bipush 24, 2) := by decide +kernel
theorem d_X2_add_51 : decode mX2_add.2.2.1 51 = .ok (.imul, 1) := by decide +kernel
theorem d_X2_add_52 : decode mX2_add.2.2.1 52 = .ok (.bipush 24, 2) := by decide +kernel
theorem d_X2_add_54 : decode mX2_add.2.2.1 54 = .ok (.invokestatic 48, 3) := by decide +kernel
theorem ac_2_48 : Cond.methodLink (e_cn 2) 48 arraycopyName ∈ tblG := tblG_in (inT6 (List.mem_of_getElem? (i := 91) rfl)) rfl
theorem d_X2_add_57 : decode mX2_add.2.2.1 57 = .ok (.aload_n 0, 1) := by decide +kernel
theorem d_X2_add_58 : decode mX2_add.2.2.1 58 = .ok (.dup, 1) := by decide +kernel
theorem d_X2_add_59 : decode mX2_add.2.2.1 59 = .ok (.getfield 27, 3) := by decide +kernel
theorem d_X2_add_62 : decode mX2_add.2.2.1 62 = .ok (.iconst 1, 1) := by decide +kernel
theorem d_X2_add_63 : decode mX2_add.2.2.1 63 = .ok (.iadd, 1) := by decide +kernel
theorem d_X2_add_64 : decode mX2_add.2.2.1 64 = .ok (.putfield 27, 3) := by decide +kernel
theorem d_X2_add_67 : decode mX2_add.2.2.1 67 = .ok (.return_, 1) := by decide +kernel
theorem d_X11_measure_53 : decode mX11_measure.2.2.1 53 = .ok (.aload_n 0, 1) := by decide +kernel
theorem d_X11_measure_54 : decode mX11_measure.2.2.1 54 = .ok (.getfield 70, 3) := by decide +kernel
theorem d_X11_measure_57 : decode mX11_measure.2.2.1 57 = .ok (.getfield 133, 3) := by decide +kernel
theorem d_X11_measure_60 : decode mX11_measure.2.2.1 60 = .ok (.ireturn, 1) := by decide +kernel
theorem d_X12_is_10 : decode mX12_is.2.2.1 10 = .ok (.iconst 1, 1) := by decide +kernel
theorem d_X12_is_11 : decode mX12_is.2.2.1 11 = .ok (.goto 4, 3) := by decide +kernel
theorem d_X12_measure_11 : decode mX12_measure.2.2.1 11 = .ok (.aload_n 0, 1) := by decide +kernel
theorem d_X12_measure_12 : decode mX12_measure.2.2.1 12 = .ok (.getfield 333, 3) := by decide +kernel
theorem d_X12_measure_15 : decode mX12_measure.2.2.1 15 = .ok (.bipush 12, 2) := by decide +kernel
theorem d_X12_measure_17 : decode mX12_measure.2.2.1 17 = .ok (.if_icmp .ne 5, 3) := by decide +kernel
theorem d_X12_measure_22 : decode mX12_measure.2.2.1 22 = .ok (.iconst 0, 1) := by decide +kernel
theorem d_X12_measure_23 : decode mX12_measure.2.2.1 23 = .ok (.istore_n 2, 1) := by decide +kernel
theorem d_X12_measure_24 : decode mX12_measure.2.2.1 24 = .ok (.iload_n 2, 1) := by decide +kernel
theorem d_X12_measure_25 : decode mX12_measure.2.2.1 25 = .ok (.iconst 3, 1) := by decide +kernel
theorem d_X12_measure_26 : decode mX12_measure.2.2.1 26 = .ok (.if_icmp .ge 28, 3) := by decide +kernel
theorem d_X12_measure_29 : decode mX12_measure.2.2.1 29 = .ok (.aload_n 0, 1) := by decide +kernel
theorem d_X12_measure_30 : decode mX12_measure.2.2.1 30 = .ok (.getfield 336, 3) := by decide +kernel
theorem d_X12_measure_33 : decode mX12_measure.2.2.1 33 = .ok (.iconst 3, 1) := by decide +kernel
theorem d_X12_measure_34 : decode mX12_measure.2.2.1 34 = .ok (.aload_n 0, 1) := by decide +kernel
theorem d_X12_measure_35 : decode mX12_measure.2.2.1 35 = .ok (.getfield 333, 3) := by decide +kernel
theorem d_X12_measure_38 : decode mX12_measure.2.2.1 38 = .ok (.imul, 1) := by decide +kernel
theorem d_X12_measure_39 : decode mX12_measure.2.2.1 39 = .ok (.iload_n 2, 1) := by decide +kernel
theorem d_X12_measure_40 : decode mX12_measure.2.2.1 40 = .ok (.iadd, 1) := by decide +kernel
theorem d_X12_measure_41 : decode mX12_measure.2.2.1 41 = .ok (.aload_n 0, 1) := by decide +kernel
theorem d_X12_measure_42 : decode mX12_measure.2.2.1 42 = .ok (.getfield 168, 3) := by decide +kernel
theorem d_X12_measure_45 : decode mX12_measure.2.2.1 45 = .ok (.iload_n 2, 1) := by decide +kernel
theorem d_X12_measure_46 : decode mX12_measure.2.2.1 46 = .ok (.iaload, 1) := by decide +kernel
theorem d_X12_measure_47 : decode mX12_measure.2.2.1 47 = .ok (.iastore, 1) := by decide +kernel
theorem d_X12_measure_48 : decode mX12_measure.2.2.1 48 = .ok (.iinc 2 1, 3) := by decide +kernel
theorem d_X12_measure_51 : decode mX12_measure.2.2.1 51 = .ok (.goto (-27), 3) := by decide +kernel
theorem d_X12_measure_54 : decode mX12_measure.2.2.1 54 = .ok (.aload_n 0, 1) := by decide +kernel
theorem d_X12_measure_55 : decode mX12_measure.2.2.1 55 = .ok (.getfield 339, 3) := by decide +kernel
theorem d_X12_measure_58 : decode mX12_measure.2.2.1 58 = .ok (.aload_n 0, 1) := by decide +kernel
theorem d_X12_measure_59 : decode mX12_measure.2.2.1 59 = .ok (.getfield 333, 3) := by decide +kernel
theorem d_X12_measure_62 : decode mX12_measure.2.2.1 62 = .ok (.iload_n 1, 1) := by decide +kernel
theorem d_X12_measure_63 : decode mX12_measure.2.2.1 63 = .ok (.iastore, 1) := by decide +kernel
theorem d_X12_measure_64 : decode mX12_measure.2.2.1 64 = .ok (.aload_n 0, 1) := by decide +kernel
theorem d_X12_measure_65 : decode mX12_measure.2.2.1 65 = .ok (.dup, 1) := by decide +kernel
theorem d_X12_measure_66 : decode mX12_measure.2.2.1 66 = .ok (.getfield 333, 3) := by decide +kernel
theorem d_X12_measure_69 : decode mX12_measure.2.2.1 69 = .ok (.iconst 1, 1) := by decide +kernel
theorem d_X12_measure_70 : decode mX12_measure.2.2.1 70 = .ok (.iadd, 1) := by decide +kernel
theorem d_X12_measure_71 : decode mX12_measure.2.2.1 71 = .ok (.putfield 333, 3) := by decide +kernel
theorem d_X12_measure_74 : decode mX12_measure.2.2.1 74 = .ok (.aload_n 0, 1) := by decide +kernel
theorem d_X12_measure_75 : decode mX12_measure.2.2.1 75 = .ok (.getfield 333, 3) := by decide +kernel
theorem d_X12_measure_78 : decode mX12_measure.2.2.1 78 = .ok (.ireturn, 1) := by decide +kernel
def mX11_fit : MD := (11, yX11_fit, cX11_fit, 2, some .int)
theorem sel_X11_fit : Cond.instanceMethod mX11_fit.2.1 ∈ tblG ∧ Cond.selects mX11_fit.2.1.cls mX11_fit.2.1 mX11_fit.2.1 ∈ tblG := ⟨tblG_in (inT6 (List.mem_of_getElem? (i := 93) rfl)) rfl, tblG_in (inT6 (List.mem_of_getElem? (i := 94) rfl)) rfl⟩
theorem s_13_103 : e_siteV 13 103 mX11_fit 11 := ⟨tblG_in (inT6 (List.mem_of_getElem? (i := 92) rfl)) rfl, sel_X11_fit.1, sel_X11_fit.2, rfl⟩
theorem ok_X11_fit : e_m mX11_fit 1 := ⟨tblG_in (inT6 (List.mem_of_getElem? (i := 95) rfl)) rfl, by decide, rfl, ini_11, by decide +kernel, by decide⟩
theorem d_X11_fit_0 : decode mX11_fit.2.2.1 0 = .ok (.aload_n 0, 1) := by decide +kernel
theorem d_X11_fit_1 : decode mX11_fit.2.2.1 1 = .ok (.iload_n 1, 1) := by decide +kernel
theorem d_X11_fit_2 : decode mX11_fit.2.2.1 2 = .ok (.invokevirtual 174, 3) := by decide +kernel
def mX11_isPart : MD := (11, yX11_isPart, cX11_isPart, 2, some .boolean)
theorem sel_X11_isPart : Cond.instanceMethod mX11_isPart.2.1 ∈ tblG ∧ Cond.selects mX11_isPart.2.1.cls mX11_isPart.2.1 mX11_isPart.2.1 ∈ tblG := ⟨tblG_in (inT5 (List.mem_of_getElem? (i := 180) rfl)) rfl, tblG_in (inP4 (q := (mX11_isPart.2.1, 14)) (List.mem_of_getElem? (i := 10) rfl)) rfl⟩
theorem s_11_174 : e_siteV 11 174 mX11_isPart 11 := ⟨tblG_in (inT5 (List.mem_of_getElem? (i := 178) rfl)) rfl, sel_X11_isPart.1, sel_X11_isPart.2, rfl⟩
theorem ok_X11_isPart : e_m mX11_isPart 1 := ⟨tblG_in (inT5 (List.mem_of_getElem? (i := 181) rfl)) rfl, by decide, rfl, ini_11, by decide +kernel, by decide⟩
theorem d_X11_isPart_0 : decode mX11_isPart.2.2.1 0 = .ok (.iload_n 1, 1) := by decide +kernel
theorem d_X11_isPart_1 : decode mX11_isPart.2.2.1 1 = .ok (.ifCond .lt 20, 3) := by decide +kernel
theorem d_X11_isPart_21 : decode mX11_isPart.2.2.1 21 = .ok (.iconst 0, 1) := by decide +kernel
theorem d_X11_isPart_22 : decode mX11_isPart.2.2.1 22 = .ok (.ireturn, 1) := by decide +kernel
theorem d_X11_fit_5 : decode mX11_fit.2.2.1 5 = .ok (.ifCond .eq 13, 3) := by decide +kernel
theorem d_X11_fit_18 : decode mX11_fit.2.2.1 18 = .ok (.iconst (-1), 1) := by decide +kernel
theorem d_X11_fit_19 : decode mX11_fit.2.2.1 19 = .ok (.ireturn, 1) := by decide +kernel
def mX12_fit : MD := (12, yX12_fit, cX12_fit, 10, some .int)
theorem sel_X12_fit : Cond.instanceMethod mX12_fit.2.1 ∈ tblG ∧ Cond.selects mX12_fit.2.1.cls mX12_fit.2.1 mX12_fit.2.1 ∈ tblG := ⟨tblG_in (inT9 (List.mem_of_getElem? (i := 239) rfl)) rfl, tblG_in (inT10 (List.mem_of_getElem? (i := 0) rfl)) rfl⟩
theorem s_13_106 : e_siteV 13 106 mX12_fit 12 := ⟨tblG_in (inT9 (List.mem_of_getElem? (i := 238) rfl)) rfl, sel_X12_fit.1, sel_X12_fit.2, rfl⟩
theorem ok_X12_fit : e_m mX12_fit 1 := ⟨tblG_in (inT10 (List.mem_of_getElem? (i := 1) rfl)) rfl, by decide, rfl, ini_12, by decide +kernel, by decide⟩
theorem d_X12_fit_0 : decode mX12_fit.2.2.1 0 = .ok (.aload_n 0, 1) := by decide +kernel
theorem d_X12_fit_1 : decode mX12_fit.2.2.1 1 = .ok (.iload_n 1, 1) := by decide +kernel
theorem d_X12_fit_2 : decode mX12_fit.2.2.1 2 = .ok (.invokevirtual 555, 3) := by decide +kernel
theorem d_X12_fit_5 : decode mX12_fit.2.2.1 5 = .ok (.ifCond .eq 10, 3) := by decide +kernel
theorem d_X12_fit_15 : decode mX12_fit.2.2.1 15 = .ok (.iconst (-1), 1) := by decide +kernel
theorem d_X12_fit_16 : decode mX12_fit.2.2.1 16 = .ok (.ireturn, 1) := by decide +kernel
theorem d_X11_isPart_4 : decode mX11_isPart.2.2.1 4 = .ok (.iload_n 1, 1) := by decide +kernel
theorem d_X11_isPart_5 : decode mX11_isPart.2.2.1 5 = .ok (.aload_n 0, 1) := by decide +kernel
theorem d_X11_isPart_6 : decode mX11_isPart.2.2.1 6 = .ok (.getfield 30, 3) := by decide +kernel
theorem d_X11_isPart_9 : decode mX11_isPart.2.2.1 9 = .ok (.getfield 130, 3) := by decide +kernel
theorem d_X11_isPart_12 : decode mX11_isPart.2.2.1 12 = .ok (.iconst 0, 1) := by decide +kernel
theorem d_X11_isPart_13 : decode mX11_isPart.2.2.1 13 = .ok (.iaload, 1) := by decide +kernel
theorem d_X11_isPart_14 : decode mX11_isPart.2.2.1 14 = .ok (.if_icmp .ge 7, 3) := by decide +kernel
def mX11_fitted : MD := (11, yX11_fitted, cX11_fitted, 2, some .int)
theorem sel_X11_fitted : Cond.instanceMethod mX11_fitted.2.1 ∈ tblG ∧ Cond.selects mX11_fitted.2.1.cls mX11_fitted.2.1 mX11_fitted.2.1 ∈ tblG := ⟨tblG_in (inT6 (List.mem_of_getElem? (i := 112) rfl)) rfl, tblG_in (inT6 (List.mem_of_getElem? (i := 113) rfl)) rfl⟩
theorem s_13_107 : e_siteV 13 107 mX11_fitted 11 := ⟨tblG_in (inT6 (List.mem_of_getElem? (i := 111) rfl)) rfl, sel_X11_fitted.1, sel_X11_fitted.2, rfl⟩
theorem ok_X11_fitted : e_m mX11_fitted 1 := ⟨tblG_in (inT6 (List.mem_of_getElem? (i := 114) rfl)) rfl, by decide, rfl, ini_11, by decide +kernel, by decide⟩
theorem d_X11_fitted_0 : decode mX11_fitted.2.2.1 0 = .ok (.aload_n 0, 1) := by decide +kernel
theorem d_X11_fitted_1 : decode mX11_fitted.2.2.1 1 = .ok (.getfield 70, 3) := by decide +kernel
theorem d_X11_fitted_4 : decode mX11_fitted.2.2.1 4 = .ok (.getfield 280, 3) := by decide +kernel
theorem f_11_280 : e_fld 11 280 2 1 7 3 false := ⟨RX2, TX2, 1, rfl, rfl, by decide, rfl, rfl, rfl, iX2, tblG_in (inT2 (List.mem_of_getElem? (i := 221) rfl)) rfl, tyX2_ok, nmX2⟩
theorem d_X11_fitted_7 : decode mX11_fitted.2.2.1 7 = .ok (.ifCond .eq 12, 3) := by decide +kernel
theorem d_X11_fitted_19 : decode mX11_fitted.2.2.1 19 = .ok (.iconst (-1), 1) := by decide +kernel
theorem d_X11_fitted_20 : decode mX11_fitted.2.2.1 20 = .ok (.ireturn, 1) := by decide +kernel
def mX12_fitted : MD := (12, yX12_fitted, cX12_fitted, 2, some .int)
theorem sel_X12_fitted : Cond.instanceMethod mX12_fitted.2.1 ∈ tblG ∧ Cond.selects mX12_fitted.2.1.cls mX12_fitted.2.1 mX12_fitted.2.1 ∈ tblG := ⟨tblG_in (inT10 (List.mem_of_getElem? (i := 3) rfl)) rfl, tblG_in (inT10 (List.mem_of_getElem? (i := 4) rfl)) rfl⟩
theorem s_13_110 : e_siteV 13 110 mX12_fitted 12 := ⟨tblG_in (inT10 (List.mem_of_getElem? (i := 2) rfl)) rfl, sel_X12_fitted.1, sel_X12_fitted.2, rfl⟩
theorem ok_X12_fitted : e_m mX12_fitted 1 := ⟨tblG_in (inT10 (List.mem_of_getElem? (i := 5) rfl)) rfl, by decide, rfl, ini_12, by decide +kernel, by decide⟩
theorem d_X12_fitted_0 : decode mX12_fitted.2.2.1 0 = .ok (.aload_n 0, 1) := by decide +kernel
theorem d_X12_fitted_1 : decode mX12_fitted.2.2.1 1 = .ok (.getfield 342, 3) := by decide +kernel
theorem d_X12_fitted_4 : decode mX12_fitted.2.2.1 4 = .ok (.ifCond .eq 21, 3) := by decide +kernel
theorem d_X12_fitted_25 : decode mX12_fitted.2.2.1 25 = .ok (.iconst (-1), 1) := by decide +kernel
theorem d_X12_fitted_26 : decode mX12_fitted.2.2.1 26 = .ok (.ireturn, 1) := by decide +kernel
def mX11_ask : MD := (11, yX11_ask, cX11_ask, 4, some .int)
theorem sel_X11_ask : Cond.instanceMethod mX11_ask.2.1 ∈ tblG ∧ Cond.selects mX11_ask.2.1.cls mX11_ask.2.1 mX11_ask.2.1 ∈ tblG := ⟨tblG_in (inT6 (List.mem_of_getElem? (i := 116) rfl)) rfl, tblG_in (inT6 (List.mem_of_getElem? (i := 117) rfl)) rfl⟩
theorem s_13_111 : e_siteV 13 111 mX11_ask 11 := ⟨tblG_in (inT6 (List.mem_of_getElem? (i := 115) rfl)) rfl, sel_X11_ask.1, sel_X11_ask.2, rfl⟩
theorem ok_X11_ask : e_m mX11_ask 3 := ⟨tblG_in (inT6 (List.mem_of_getElem? (i := 118) rfl)) rfl, by decide, rfl, ini_11, by decide +kernel, by decide⟩
theorem d_X11_ask_0 : decode mX11_ask.2.2.1 0 = .ok (.iload_n 1, 1) := by decide +kernel
theorem d_X11_ask_1 : decode mX11_ask.2.2.1 1 = .ok (.ifCond .lt 30, 3) := by decide +kernel
theorem d_X11_ask_31 : decode mX11_ask.2.2.1 31 = .ok (.iconst (-1), 1) := by decide +kernel
theorem d_X11_ask_32 : decode mX11_ask.2.2.1 32 = .ok (.ireturn, 1) := by decide +kernel
def mX12_ask : MD := (12, yX12_ask, cX12_ask, 4, some .int)
theorem sel_X12_ask : Cond.instanceMethod mX12_ask.2.1 ∈ tblG ∧ Cond.selects mX12_ask.2.1.cls mX12_ask.2.1 mX12_ask.2.1 ∈ tblG := ⟨tblG_in (inT10 (List.mem_of_getElem? (i := 7) rfl)) rfl, tblG_in (inT10 (List.mem_of_getElem? (i := 8) rfl)) rfl⟩
theorem s_13_114 : e_siteV 13 114 mX12_ask 12 := ⟨tblG_in (inT10 (List.mem_of_getElem? (i := 6) rfl)) rfl, sel_X12_ask.1, sel_X12_ask.2, rfl⟩
theorem ok_X12_ask : e_m mX12_ask 3 := ⟨tblG_in (inT10 (List.mem_of_getElem? (i := 9) rfl)) rfl, by decide, rfl, ini_12, by decide +kernel, by decide⟩
theorem d_X12_ask_0 : decode mX12_ask.2.2.1 0 = .ok (.iload_n 1, 1) := by decide +kernel
theorem d_X12_ask_1 : decode mX12_ask.2.2.1 1 = .ok (.iconst 0, 1) := by decide +kernel
theorem d_X12_ask_2 : decode mX12_ask.2.2.1 2 = .ok (.sipush 200, 3) := by decide +kernel
theorem d_X12_ask_5 : decode mX12_ask.2.2.1 5 = .ok (.invokestatic 467, 3) := by decide +kernel
theorem d_X12_ask_8 : decode mX12_ask.2.2.1 8 = .ok (.ifCond .eq 31, 3) := by decide +kernel
theorem d_X12_ask_39 : decode mX12_ask.2.2.1 39 = .ok (.iconst (-1), 1) := by decide +kernel
theorem d_X12_ask_40 : decode mX12_ask.2.2.1 40 = .ok (.ireturn, 1) := by decide +kernel
theorem d_X11_ask_4 : decode mX11_ask.2.2.1 4 = .ok (.iload_n 1, 1) := by decide +kernel
theorem d_X11_ask_5 : decode mX11_ask.2.2.1 5 = .ok (.sipush 200, 3) := by decide +kernel
theorem d_X11_ask_8 : decode mX11_ask.2.2.1 8 = .ok (.if_icmp .gt 23, 3) := by decide +kernel
theorem d_X11_ask_11 : decode mX11_ask.2.2.1 11 = .ok (.iload_n 2, 1) := by decide +kernel
theorem d_X11_ask_12 : decode mX11_ask.2.2.1 12 = .ok (.iconst 1, 1) := by decide +kernel
theorem d_X11_ask_13 : decode mX11_ask.2.2.1 13 = .ok (.if_icmp .lt 18, 3) := by decide +kernel
theorem d_X12_ask_11 : decode mX12_ask.2.2.1 11 = .ok (.iload_n 2, 1) := by decide +kernel
theorem d_X12_ask_12 : decode mX12_ask.2.2.1 12 = .ok (.iconst 1, 1) := by decide +kernel
theorem d_X12_ask_13 : decode mX12_ask.2.2.1 13 = .ok (.bipush 20, 2) := by decide +kernel
theorem d_X12_ask_15 : decode mX12_ask.2.2.1 15 = .ok (.invokestatic 467, 3) := by decide +kernel
theorem d_X12_ask_18 : decode mX12_ask.2.2.1 18 = .ok (.ifCond .eq 21, 3) := by decide +kernel
theorem d_X11_ask_16 : decode mX11_ask.2.2.1 16 = .ok (.iload_n 2, 1) := by decide +kernel
theorem d_X11_ask_17 : decode mX11_ask.2.2.1 17 = .ok (.bipush 20, 2) := by decide +kernel
theorem d_X11_ask_19 : decode mX11_ask.2.2.1 19 = .ok (.if_icmp .gt 12, 3) := by decide +kernel
theorem d_X11_ask_22 : decode mX11_ask.2.2.1 22 = .ok (.iload_n 3, 1) := by decide +kernel
theorem d_X11_ask_23 : decode mX11_ask.2.2.1 23 = .ok (.ifCond .lt 8, 3) := by decide +kernel
theorem d_X12_ask_21 : decode mX12_ask.2.2.1 21 = .ok (.iload_n 3, 1) := by decide +kernel
theorem d_X12_ask_22 : decode mX12_ask.2.2.1 22 = .ok (.iconst 0, 1) := by decide +kernel
theorem d_X12_ask_23 : decode mX12_ask.2.2.1 23 = .ok (.iconst 5, 1) := by decide +kernel
theorem d_X12_ask_24 : decode mX12_ask.2.2.1 24 = .ok (.invokestatic 467, 3) := by decide +kernel
theorem d_X12_ask_27 : decode mX12_ask.2.2.1 27 = .ok (.ifCond .eq 12, 3) := by decide +kernel
theorem d_X11_ask_26 : decode mX11_ask.2.2.1 26 = .ok (.iload_n 3, 1) := by decide +kernel
theorem d_X11_ask_27 : decode mX11_ask.2.2.1 27 = .ok (.iconst 5, 1) := by decide +kernel
theorem d_X11_ask_28 : decode mX11_ask.2.2.1 28 = .ok (.if_icmp .le 5, 3) := by decide +kernel
theorem d_X11_ask_33 : decode mX11_ask.2.2.1 33 = .ok (.aload_n 0, 1) := by decide +kernel
theorem d_X11_ask_34 : decode mX11_ask.2.2.1 34 = .ok (.getfield 77, 3) := by decide +kernel
theorem d_X11_ask_37 : decode mX11_ask.2.2.1 37 = .ok (.iload_n 1, 1) := by decide +kernel
theorem d_X11_ask_38 : decode mX11_ask.2.2.1 38 = .ok (.iload_n 2, 1) := by decide +kernel
theorem d_X11_ask_39 : decode mX11_ask.2.2.1 39 = .ok (.iload_n 3, 1) := by decide +kernel
theorem d_X11_ask_40 : decode mX11_ask.2.2.1 40 = .ok (.invokevirtual 286, 3) := by decide +kernel
def mX0_add : MD := (0, yX0_add, cX0_add, 4, some .boolean)
theorem sel_X0_add : Cond.instanceMethod mX0_add.2.1 ∈ tblG ∧ Cond.selects mX0_add.2.1.cls mX0_add.2.1 mX0_add.2.1 ∈ tblG := ⟨tblG_in (inT6 (List.mem_of_getElem? (i := 120) rfl)) rfl, tblG_in (inT6 (List.mem_of_getElem? (i := 121) rfl)) rfl⟩
theorem s_11_286 : e_siteV 11 286 mX0_add 0 := ⟨tblG_in (inT6 (List.mem_of_getElem? (i := 119) rfl)) rfl, sel_X0_add.1, sel_X0_add.2, rfl⟩
theorem ok_X0_add : e_m mX0_add 3 := ⟨tblG_in (inT6 (List.mem_of_getElem? (i := 122) rfl)) rfl, by decide, rfl, ini_0, by decide +kernel, by decide⟩
theorem d_X0_add_0 : decode mX0_add.2.2.1 0 = .ok (.aload_n 0, 1) := by decide +kernel
theorem d_X0_add_1 : decode mX0_add.2.2.1 1 = .ok (.getfield 30, 3) := by decide +kernel
theorem f_0_30 : e_fld 0 30 0 0 8 0 false := ⟨RX0, TX0, 0, rfl, rfl, by decide, rfl, rfl, rfl, iX0, tblG_in (inT3 (List.mem_of_getElem? (i := 9) rfl)) rfl, tyX0_ok, nmX0⟩
theorem d_X0_add_4 : decode mX0_add.2.2.1 4 = .ok (.bipush 6, 2) := by decide +kernel
theorem d_X0_add_6 : decode mX0_add.2.2.1 6 = .ok (.if_icmp .lt 5, 3) := by decide +kernel
theorem d_X0_add_11 : decode mX0_add.2.2.1 11 = .ok (.aload_n 0, 1) := by decide +kernel
theorem d_X0_add_12 : decode mX0_add.2.2.1 12 = .ok (.getfield 11, 3) := by decide +kernel
theorem d_X0_add_15 : decode mX0_add.2.2.1 15 = .ok (.aload_n 0, 1) := by decide +kernel
theorem d_X0_add_16 : decode mX0_add.2.2.1 16 = .ok (.getfield 30, 3) := by decide +kernel
theorem d_X0_add_19 : decode mX0_add.2.2.1 19 = .ok (.iload_n 1, 1) := by decide +kernel
theorem d_X0_add_20 : decode mX0_add.2.2.1 20 = .ok (.iastore, 1) := by decide +kernel
theorem d_X0_add_21 : decode mX0_add.2.2.1 21 = .ok (.aload_n 0, 1) := by decide +kernel
theorem d_X0_add_22 : decode mX0_add.2.2.1 22 = .ok (.getfield 15, 3) := by decide +kernel
theorem d_X0_add_25 : decode mX0_add.2.2.1 25 = .ok (.aload_n 0, 1) := by decide +kernel
theorem d_X0_add_26 : decode mX0_add.2.2.1 26 = .ok (.getfield 30, 3) := by decide +kernel
theorem d_X0_add_29 : decode mX0_add.2.2.1 29 = .ok (.iload_n 2, 1) := by decide +kernel
theorem d_X0_add_30 : decode mX0_add.2.2.1 30 = .ok (.iastore, 1) := by decide +kernel
theorem d_X0_add_31 : decode mX0_add.2.2.1 31 = .ok (.aload_n 0, 1) := by decide +kernel
theorem d_X0_add_32 : decode mX0_add.2.2.1 32 = .ok (.getfield 18, 3) := by decide +kernel
theorem d_X0_add_35 : decode mX0_add.2.2.1 35 = .ok (.aload_n 0, 1) := by decide +kernel
theorem d_X0_add_36 : decode mX0_add.2.2.1 36 = .ok (.getfield 30, 3) := by decide +kernel
theorem d_X0_add_39 : decode mX0_add.2.2.1 39 = .ok (.iload_n 3, 1) := by decide +kernel
theorem d_X0_add_40 : decode mX0_add.2.2.1 40 = .ok (.iastore, 1) := by decide +kernel
theorem d_X0_add_41 : decode mX0_add.2.2.1 41 = .ok (.aload_n 0, 1) := by decide +kernel
theorem d_X0_add_42 : decode mX0_add.2.2.1 42 = .ok (.dup, 1) := by decide +kernel
theorem d_X0_add_43 : decode mX0_add.2.2.1 43 = .ok (.getfield 30, 3) := by decide +kernel
theorem d_X0_add_46 : decode mX0_add.2.2.1 46 = .ok (.iconst 1, 1) := by decide +kernel
theorem d_X0_add_47 : decode mX0_add.2.2.1 47 = .ok (.iadd, 1) := by decide +kernel
theorem d_X0_add_48 : decode mX0_add.2.2.1 48 = .ok (.putfield 30, 3) := by decide +kernel
theorem d_X0_add_51 : decode mX0_add.2.2.1 51 = .ok (.iconst 1, 1) := by decide +kernel
theorem d_X0_add_52 : decode mX0_add.2.2.1 52 = .ok (.ireturn, 1) := by decide +kernel
theorem d_X11_ask_43 : decode mX11_ask.2.2.1 43 = .ok (.ifCond .eq 13, 3) := by decide +kernel
theorem d_X11_ask_46 : decode mX11_ask.2.2.1 46 = .ok (.aload_n 0, 1) := by decide +kernel
theorem d_X11_ask_47 : decode mX11_ask.2.2.1 47 = .ok (.getfield 77, 3) := by decide +kernel
theorem d_X11_ask_50 : decode mX11_ask.2.2.1 50 = .ok (.getfield 136, 3) := by decide +kernel
theorem d_X11_ask_53 : decode mX11_ask.2.2.1 53 = .ok (.goto 4, 3) := by decide +kernel
theorem d_X11_ask_57 : decode mX11_ask.2.2.1 57 = .ok (.ireturn, 1) := by decide +kernel
theorem d_X12_ask_30 : decode mX12_ask.2.2.1 30 = .ok (.aload_n 0, 1) := by decide +kernel
theorem d_X12_ask_31 : decode mX12_ask.2.2.1 31 = .ok (.getfield 354, 3) := by decide +kernel
theorem d_X12_ask_34 : decode mX12_ask.2.2.1 34 = .ok (.bipush 6, 2) := by decide +kernel
theorem d_X12_ask_36 : decode mX12_ask.2.2.1 36 = .ok (.if_icmp .ne 5, 3) := by decide +kernel
theorem d_X12_ask_41 : decode mX12_ask.2.2.1 41 = .ok (.aload_n 0, 1) := by decide +kernel
theorem d_X12_ask_42 : decode mX12_ask.2.2.1 42 = .ok (.getfield 357, 3) := by decide +kernel
theorem d_X12_ask_45 : decode mX12_ask.2.2.1 45 = .ok (.aload_n 0, 1) := by decide +kernel
theorem d_X12_ask_46 : decode mX12_ask.2.2.1 46 = .ok (.getfield 354, 3) := by decide +kernel
theorem d_X12_ask_49 : decode mX12_ask.2.2.1 49 = .ok (.iload_n 1, 1) := by decide +kernel
theorem d_X12_ask_50 : decode mX12_ask.2.2.1 50 = .ok (.iastore, 1) := by decide +kernel
theorem d_X12_ask_51 : decode mX12_ask.2.2.1 51 = .ok (.aload_n 0, 1) := by decide +kernel
theorem d_X12_ask_52 : decode mX12_ask.2.2.1 52 = .ok (.getfield 360, 3) := by decide +kernel
theorem d_X12_ask_55 : decode mX12_ask.2.2.1 55 = .ok (.aload_n 0, 1) := by decide +kernel
theorem d_X12_ask_56 : decode mX12_ask.2.2.1 56 = .ok (.getfield 354, 3) := by decide +kernel
theorem d_X12_ask_59 : decode mX12_ask.2.2.1 59 = .ok (.iload_n 2, 1) := by decide +kernel
theorem d_X12_ask_60 : decode mX12_ask.2.2.1 60 = .ok (.iastore, 1) := by decide +kernel
theorem d_X12_ask_61 : decode mX12_ask.2.2.1 61 = .ok (.aload_n 0, 1) := by decide +kernel
theorem d_X12_ask_62 : decode mX12_ask.2.2.1 62 = .ok (.getfield 363, 3) := by decide +kernel
theorem d_X12_ask_65 : decode mX12_ask.2.2.1 65 = .ok (.aload_n 0, 1) := by decide +kernel
theorem d_X12_ask_66 : decode mX12_ask.2.2.1 66 = .ok (.getfield 354, 3) := by decide +kernel
theorem d_X12_ask_69 : decode mX12_ask.2.2.1 69 = .ok (.iload_n 3, 1) := by decide +kernel
theorem d_X12_ask_70 : decode mX12_ask.2.2.1 70 = .ok (.iastore, 1) := by decide +kernel
theorem d_X12_ask_71 : decode mX12_ask.2.2.1 71 = .ok (.aload_n 0, 1) := by decide +kernel
theorem d_X12_ask_72 : decode mX12_ask.2.2.1 72 = .ok (.dup, 1) := by decide +kernel
theorem d_X12_ask_73 : decode mX12_ask.2.2.1 73 = .ok (.getfield 354, 3) := by decide +kernel
theorem d_X12_ask_76 : decode mX12_ask.2.2.1 76 = .ok (.iconst 1, 1) := by decide +kernel
theorem d_X12_ask_77 : decode mX12_ask.2.2.1 77 = .ok (.iadd, 1) := by decide +kernel
theorem d_X12_ask_78 : decode mX12_ask.2.2.1 78 = .ok (.putfield 354, 3) := by decide +kernel
theorem d_X12_ask_81 : decode mX12_ask.2.2.1 81 = .ok (.aload_n 0, 1) := by decide +kernel
theorem d_X12_ask_82 : decode mX12_ask.2.2.1 82 = .ok (.getfield 354, 3) := by decide +kernel
theorem d_X12_ask_85 : decode mX12_ask.2.2.1 85 = .ok (.ireturn, 1) := by decide +kernel
def mX11_forget : MD := (11, yX11_forget, cX11_forget, 2, some .int)
theorem sel_X11_forget : Cond.instanceMethod mX11_forget.2.1 ∈ tblG ∧ Cond.selects mX11_forget.2.1.cls mX11_forget.2.1 mX11_forget.2.1 ∈ tblG := ⟨tblG_in (inT6 (List.mem_of_getElem? (i := 124) rfl)) rfl, tblG_in (inT6 (List.mem_of_getElem? (i := 125) rfl)) rfl⟩
theorem s_13_115 : e_siteV 13 115 mX11_forget 11 := ⟨tblG_in (inT6 (List.mem_of_getElem? (i := 123) rfl)) rfl, sel_X11_forget.1, sel_X11_forget.2, rfl⟩
theorem ok_X11_forget : e_m mX11_forget 0 := ⟨tblG_in (inT6 (List.mem_of_getElem? (i := 126) rfl)) rfl, by decide, rfl, ini_11, by decide +kernel, by decide⟩
theorem d_X11_forget_0 : decode mX11_forget.2.2.1 0 = .ok (.aload_n 0, 1) := by decide +kernel
theorem d_X11_forget_1 : decode mX11_forget.2.2.1 1 = .ok (.getfield 77, 3) := by decide +kernel
theorem d_X11_forget_4 : decode mX11_forget.2.2.1 4 = .ok (.getfield 136, 3) := by decide +kernel
theorem d_X11_forget_7 : decode mX11_forget.2.2.1 7 = .ok (.istore_n 1, 1) := by decide +kernel
theorem d_X11_forget_8 : decode mX11_forget.2.2.1 8 = .ok (.aload_n 0, 1) := by decide +kernel
theorem d_X11_forget_9 : decode mX11_forget.2.2.1 9 = .ok (.getfield 77, 3) := by decide +kernel
theorem d_X11_forget_12 : decode mX11_forget.2.2.1 12 = .ok (.iconst 0, 1) := by decide +kernel
theorem d_X11_forget_13 : decode mX11_forget.2.2.1 13 = .ok (.putfield 136, 3) := by decide +kernel
theorem d_X11_forget_16 : decode mX11_forget.2.2.1 16 = .ok (.iload_n 1, 1) := by decide +kernel
theorem d_X11_forget_17 : decode mX11_forget.2.2.1 17 = .ok (.ireturn, 1) := by decide +kernel
def mX12_forget : MD := (12, yX12_forget, cX12_forget, 2, some .int)
theorem sel_X12_forget : Cond.instanceMethod mX12_forget.2.1 ∈ tblG ∧ Cond.selects mX12_forget.2.1.cls mX12_forget.2.1 mX12_forget.2.1 ∈ tblG := ⟨tblG_in (inT10 (List.mem_of_getElem? (i := 11) rfl)) rfl, tblG_in (inT10 (List.mem_of_getElem? (i := 12) rfl)) rfl⟩
theorem s_13_118 : e_siteV 13 118 mX12_forget 12 := ⟨tblG_in (inT10 (List.mem_of_getElem? (i := 10) rfl)) rfl, sel_X12_forget.1, sel_X12_forget.2, rfl⟩
theorem ok_X12_forget : e_m mX12_forget 0 := ⟨tblG_in (inT10 (List.mem_of_getElem? (i := 13) rfl)) rfl, by decide, rfl, ini_12, by decide +kernel, by decide⟩
theorem d_X12_forget_0 : decode mX12_forget.2.2.1 0 = .ok (.aload_n 0, 1) := by decide +kernel
theorem d_X12_forget_1 : decode mX12_forget.2.2.1 1 = .ok (.getfield 354, 3) := by decide +kernel
theorem d_X12_forget_4 : decode mX12_forget.2.2.1 4 = .ok (.istore_n 1, 1) := by decide +kernel
theorem d_X12_forget_5 : decode mX12_forget.2.2.1 5 = .ok (.aload_n 0, 1) := by decide +kernel
theorem d_X12_forget_6 : decode mX12_forget.2.2.1 6 = .ok (.iconst 0, 1) := by decide +kernel
theorem d_X12_forget_7 : decode mX12_forget.2.2.1 7 = .ok (.putfield 354, 3) := by decide +kernel
theorem d_X12_forget_10 : decode mX12_forget.2.2.1 10 = .ok (.iload_n 1, 1) := by decide +kernel
theorem d_X12_forget_11 : decode mX12_forget.2.2.1 11 = .ok (.ireturn, 1) := by decide +kernel
def mX11_together : MD := (11, yX11_together, cX11_together, 2, some .int)
theorem sel_X11_together : Cond.instanceMethod mX11_together.2.1 ∈ tblG ∧ Cond.selects mX11_together.2.1.cls mX11_together.2.1 mX11_together.2.1 ∈ tblG := ⟨tblG_in (inT6 (List.mem_of_getElem? (i := 128) rfl)) rfl, tblG_in (inT6 (List.mem_of_getElem? (i := 129) rfl)) rfl⟩
theorem s_13_119 : e_siteV 13 119 mX11_together 11 := ⟨tblG_in (inT6 (List.mem_of_getElem? (i := 127) rfl)) rfl, sel_X11_together.1, sel_X11_together.2, rfl⟩
theorem ok_X11_together : e_m mX11_together 1 := ⟨tblG_in (inT6 (List.mem_of_getElem? (i := 130) rfl)) rfl, by decide, rfl, ini_11, by decide +kernel, by decide⟩
theorem d_X11_together_0 : decode mX11_together.2.2.1 0 = .ok (.aload_n 0, 1) := by decide +kernel
theorem d_X11_together_1 : decode mX11_together.2.2.1 1 = .ok (.iload_n 1, 1) := by decide +kernel
theorem d_X11_together_2 : decode mX11_together.2.2.1 2 = .ok (.invokevirtual 174, 3) := by decide +kernel
theorem d_X11_together_5 : decode mX11_together.2.2.1 5 = .ok (.ifCond .eq 13, 3) := by decide +kernel
theorem d_X11_together_18 : decode mX11_together.2.2.1 18 = .ok (.iconst (-1), 1) := by decide +kernel
theorem d_X11_together_19 : decode mX11_together.2.2.1 19 = .ok (.ireturn, 1) := by decide +kernel
def mX12_together : MD := (12, yX12_together, cX12_together, 10, some .int)
theorem sel_X12_together : Cond.instanceMethod mX12_together.2.1 ∈ tblG ∧ Cond.selects mX12_together.2.1.cls mX12_together.2.1 mX12_together.2.1 ∈ tblG := ⟨tblG_in (inT10 (List.mem_of_getElem? (i := 15) rfl)) rfl, tblG_in (inT10 (List.mem_of_getElem? (i := 16) rfl)) rfl⟩
theorem s_13_122 : e_siteV 13 122 mX12_together 12 := ⟨tblG_in (inT10 (List.mem_of_getElem? (i := 14) rfl)) rfl, sel_X12_together.1, sel_X12_together.2, rfl⟩
theorem ok_X12_together : e_m mX12_together 1 := ⟨tblG_in (inT10 (List.mem_of_getElem? (i := 17) rfl)) rfl, by decide, rfl, ini_12, by decide +kernel, by decide⟩
theorem d_X12_together_0 : decode mX12_together.2.2.1 0 = .ok (.aload_n 0, 1) := by decide +kernel
theorem d_X12_together_1 : decode mX12_together.2.2.1 1 = .ok (.iload_n 1, 1) := by decide +kernel
theorem d_X12_together_2 : decode mX12_together.2.2.1 2 = .ok (.invokevirtual 555, 3) := by decide +kernel
theorem d_X12_together_5 : decode mX12_together.2.2.1 5 = .ok (.ifCond .eq 10, 3) := by decide +kernel
theorem d_X12_together_15 : decode mX12_together.2.2.1 15 = .ok (.iconst (-1), 1) := by decide +kernel
theorem d_X12_together_16 : decode mX12_together.2.2.1 16 = .ok (.ireturn, 1) := by decide +kernel
def mX11_later : MD := (11, yX11_later, cX11_later, 2, some .int)
theorem sel_X11_later : Cond.instanceMethod mX11_later.2.1 ∈ tblG ∧ Cond.selects mX11_later.2.1.cls mX11_later.2.1 mX11_later.2.1 ∈ tblG := ⟨tblG_in (inT6 (List.mem_of_getElem? (i := 155) rfl)) rfl, tblG_in (inT6 (List.mem_of_getElem? (i := 156) rfl)) rfl⟩
theorem s_13_123 : e_siteV 13 123 mX11_later 11 := ⟨tblG_in (inT6 (List.mem_of_getElem? (i := 154) rfl)) rfl, sel_X11_later.1, sel_X11_later.2, rfl⟩
theorem ok_X11_later : e_m mX11_later 1 := ⟨tblG_in (inT6 (List.mem_of_getElem? (i := 157) rfl)) rfl, by decide, rfl, ini_11, by decide +kernel, by decide⟩
theorem d_X11_later_0 : decode mX11_later.2.2.1 0 = .ok (.iload_n 1, 1) := by decide +kernel
theorem d_X11_later_1 : decode mX11_later.2.2.1 1 = .ok (.ifCond .lt 14, 3) := by decide +kernel
theorem d_X11_later_15 : decode mX11_later.2.2.1 15 = .ok (.iconst (-1), 1) := by decide +kernel
theorem d_X11_later_16 : decode mX11_later.2.2.1 16 = .ok (.ireturn, 1) := by decide +kernel
def mX12_later : MD := (12, yX12_later, cX12_later, 2, some .int)
theorem sel_X12_later : Cond.instanceMethod mX12_later.2.1 ∈ tblG ∧ Cond.selects mX12_later.2.1.cls mX12_later.2.1 mX12_later.2.1 ∈ tblG := ⟨tblG_in (inT10 (List.mem_of_getElem? (i := 23) rfl)) rfl, tblG_in (inT10 (List.mem_of_getElem? (i := 24) rfl)) rfl⟩
theorem s_13_126 : e_siteV 13 126 mX12_later 12 := ⟨tblG_in (inT10 (List.mem_of_getElem? (i := 22) rfl)) rfl, sel_X12_later.1, sel_X12_later.2, rfl⟩
theorem ok_X12_later : e_m mX12_later 1 := ⟨tblG_in (inT10 (List.mem_of_getElem? (i := 25) rfl)) rfl, by decide, rfl, ini_12, by decide +kernel, by decide⟩
theorem d_X12_later_0 : decode mX12_later.2.2.1 0 = .ok (.iload_n 1, 1) := by decide +kernel
theorem d_X12_later_1 : decode mX12_later.2.2.1 1 = .ok (.ifCond .lt 20, 3) := by decide +kernel
theorem d_X12_later_21 : decode mX12_later.2.2.1 21 = .ok (.iconst (-1), 1) := by decide +kernel
theorem d_X12_later_22 : decode mX12_later.2.2.1 22 = .ok (.ireturn, 1) := by decide +kernel
theorem d_X11_later_4 : decode mX11_later.2.2.1 4 = .ok (.iload_n 1, 1) := by decide +kernel
theorem d_X11_later_5 : decode mX11_later.2.2.1 5 = .ok (.aload_n 0, 1) := by decide +kernel
theorem d_X11_later_6 : decode mX11_later.2.2.1 6 = .ok (.getfield 77, 3) := by decide +kernel
theorem d_X11_later_9 : decode mX11_later.2.2.1 9 = .ok (.getfield 301, 3) := by decide +kernel
theorem f_11_301 : e_fld 11 301 0 7 8 0 false := ⟨RX0, TX0, 7, rfl, rfl, by decide, rfl, rfl, rfl, iX0, tblG_in (inT3 (List.mem_of_getElem? (i := 19) rfl)) rfl, tyX0_ok, nmX0⟩
theorem d_X11_later_12 : decode mX11_later.2.2.1 12 = .ok (.if_icmp .lt 5, 3) := by decide +kernel
theorem d_X12_later_4 : decode mX12_later.2.2.1 4 = .ok (.iload_n 1, 1) := by decide +kernel
theorem d_X12_later_5 : decode mX12_later.2.2.1 5 = .ok (.aload_n 0, 1) := by decide +kernel
theorem d_X12_later_6 : decode mX12_later.2.2.1 6 = .ok (.getfield 366, 3) := by decide +kernel
theorem d_X12_later_9 : decode mX12_later.2.2.1 9 = .ok (.if_icmp .ge 12, 3) := by decide +kernel
def mX11_never : MD := (11, yX11_never, cX11_never, 1, some .int)
theorem sel_X11_never : Cond.instanceMethod mX11_never.2.1 ∈ tblG ∧ Cond.selects mX11_never.2.1.cls mX11_never.2.1 mX11_never.2.1 ∈ tblG := ⟨tblG_in (inT6 (List.mem_of_getElem? (i := 159) rfl)) rfl, tblG_in (inT6 (List.mem_of_getElem? (i := 160) rfl)) rfl⟩
theorem s_13_127 : e_siteV 13 127 mX11_never 11 := ⟨tblG_in (inT6 (List.mem_of_getElem? (i := 158) rfl)) rfl, sel_X11_never.1, sel_X11_never.2, rfl⟩
theorem ok_X11_never : e_m mX11_never 0 := ⟨tblG_in (inT6 (List.mem_of_getElem? (i := 161) rfl)) rfl, by decide, rfl, ini_11, by decide +kernel, by decide⟩
theorem d_X11_never_0 : decode mX11_never.2.2.1 0 = .ok (.aload_n 0, 1) := by decide +kernel
theorem d_X11_never_1 : decode mX11_never.2.2.1 1 = .ok (.getfield 30, 3) := by decide +kernel
theorem d_X11_never_4 : decode mX11_never.2.2.1 4 = .ok (.getfield 115, 3) := by decide +kernel
theorem d_X11_never_7 : decode mX11_never.2.2.1 7 = .ok (.invokevirtual 307, 3) := by decide +kernel
def mX4_heldAtEnd : MD := (4, yX4_heldAtEnd, cX4_heldAtEnd, 7, some .int)
theorem sel_X4_heldAtEnd : Cond.instanceMethod mX4_heldAtEnd.2.1 ∈ tblG ∧ Cond.selects mX4_heldAtEnd.2.1.cls mX4_heldAtEnd.2.1 mX4_heldAtEnd.2.1 ∈ tblG := ⟨tblG_in (inT6 (List.mem_of_getElem? (i := 163) rfl)) rfl, tblG_in (inT6 (List.mem_of_getElem? (i := 164) rfl)) rfl⟩
theorem s_11_307 : e_siteV 11 307 mX4_heldAtEnd 4 := ⟨tblG_in (inT6 (List.mem_of_getElem? (i := 162) rfl)) rfl, sel_X4_heldAtEnd.1, sel_X4_heldAtEnd.2, rfl⟩
theorem ok_X4_heldAtEnd : e_m mX4_heldAtEnd 0 := ⟨tblG_in (inT6 (List.mem_of_getElem? (i := 165) rfl)) rfl, by decide, rfl, ini_4, by decide +kernel, by decide⟩
theorem d_X4_heldAtEnd_0 : decode mX4_heldAtEnd.2.2.1 0 = .ok (.aload_n 0, 1) := by decide +kernel
theorem d_X4_heldAtEnd_1 : decode mX4_heldAtEnd.2.2.1 1 = .ok (.getfield 42, 3) := by decide +kernel
theorem d_X4_heldAtEnd_4 : decode mX4_heldAtEnd.2.2.1 4 = .ok (.iconst 0, 1) := by decide +kernel
theorem d_X4_heldAtEnd_5 : decode mX4_heldAtEnd.2.2.1 5 = .ok (.invokestatic 58, 3) := by decide +kernel
theorem s_4_58 : e_siteS 4 58 mJ7_fill_53178 := ⟨tblG_in (inT6 (List.mem_of_getElem? (i := 166) rfl)) rfl, tblG_in (inT3 (List.mem_of_getElem? (i := 42) rfl)) rfl⟩
theorem d_X4_heldAtEnd_8 : decode mX4_heldAtEnd.2.2.1 8 = .ok (.iconst 1, 1) := by decide +kernel
theorem d_X4_heldAtEnd_9 : decode mX4_heldAtEnd.2.2.1 9 = .ok (.istore_n 1, 1) := by decide +kernel
theorem d_X4_heldAtEnd_10 : decode mX4_heldAtEnd.2.2.1 10 = .ok (.iconst 0, 1) := by decide +kernel
theorem d_X4_heldAtEnd_11 : decode mX4_heldAtEnd.2.2.1 11 = .ok (.istore_n 2, 1) := by decide +kernel
theorem d_X4_heldAtEnd_12 : decode mX4_heldAtEnd.2.2.1 12 = .ok (.iload_n 2, 1) := by decide +kernel
theorem d_X4_heldAtEnd_13 : decode mX4_heldAtEnd.2.2.1 13 = .ok (.sipush 366, 3) := by decide +kernel
theorem d_X4_heldAtEnd_16 : decode mX4_heldAtEnd.2.2.1 16 = .ok (.if_icmp .gt 86, 3) := by decide +kernel
theorem d_X4_heldAtEnd_19 : decode mX4_heldAtEnd.2.2.1 19 = .ok (.iload_n 1, 1) := by decide +kernel
theorem d_X4_heldAtEnd_20 : decode mX4_heldAtEnd.2.2.1 20 = .ok (.ifCond .eq 82, 3) := by decide +kernel
theorem d_X4_heldAtEnd_23 : decode mX4_heldAtEnd.2.2.1 23 = .ok (.iconst 0, 1) := by decide +kernel
theorem d_X4_heldAtEnd_24 : decode mX4_heldAtEnd.2.2.1 24 = .ok (.istore_n 1, 1) := by decide +kernel
theorem d_X4_heldAtEnd_25 : decode mX4_heldAtEnd.2.2.1 25 = .ok (.iconst 0, 1) := by decide +kernel
theorem d_X4_heldAtEnd_26 : decode mX4_heldAtEnd.2.2.1 26 = .ok (.istore_n 3, 1) := by decide +kernel
theorem d_X4_heldAtEnd_27 : decode mX4_heldAtEnd.2.2.1 27 = .ok (.iload_n 3, 1) := by decide +kernel
theorem d_X4_heldAtEnd_28 : decode mX4_heldAtEnd.2.2.1 28 = .ok (.aload_n 0, 1) := by decide +kernel
theorem d_X4_heldAtEnd_29 : decode mX4_heldAtEnd.2.2.1 29 = .ok (.getfield 45, 3) := by decide +kernel
theorem d_X4_heldAtEnd_32 : decode mX4_heldAtEnd.2.2.1 32 = .ok (.if_icmp .ge 64, 3) := by decide +kernel
theorem d_X4_heldAtEnd_96 : decode mX4_heldAtEnd.2.2.1 96 = .ok (.iinc 2 1, 3) := by decide +kernel
theorem d_X4_heldAtEnd_99 : decode mX4_heldAtEnd.2.2.1 99 = .ok (.goto (-87), 3) := by decide +kernel
theorem d_X4_heldAtEnd_102 : decode mX4_heldAtEnd.2.2.1 102 = .ok (.aload_n 0, 1) := by decide +kernel
theorem d_X4_heldAtEnd_103 : decode mX4_heldAtEnd.2.2.1 103 = .ok (.getfield 42, 3) := by decide +kernel
theorem d_X4_heldAtEnd_106 : decode mX4_heldAtEnd.2.2.1 106 = .ok (.aload_n 0, 1) := by decide +kernel
theorem d_X4_heldAtEnd_107 : decode mX4_heldAtEnd.2.2.1 107 = .ok (.getfield 45, 3) := by decide +kernel
theorem d_X4_heldAtEnd_110 : decode mX4_heldAtEnd.2.2.1 110 = .ok (.iaload, 1) := by decide +kernel
theorem d_X4_heldAtEnd_111 : decode mX4_heldAtEnd.2.2.1 111 = .ok (.ireturn, 1) := by decide +kernel
theorem d_X11_never_10 : decode mX11_never.2.2.1 10 = .ok (.ireturn, 1) := by decide +kernel
def mX12_never : MD := (12, yX12_never, cX12_never, 9, some .int)
theorem sel_X12_never : Cond.instanceMethod mX12_never.2.1 ∈ tblG ∧ Cond.selects mX12_never.2.1.cls mX12_never.2.1 mX12_never.2.1 ∈ tblG := ⟨tblG_in (inT10 (List.mem_of_getElem? (i := 27) rfl)) rfl, tblG_in (inT10 (List.mem_of_getElem? (i := 28) rfl)) rfl⟩
theorem s_13_130 : e_siteV 13 130 mX12_never 12 := ⟨tblG_in (inT10 (List.mem_of_getElem? (i := 26) rfl)) rfl, sel_X12_never.1, sel_X12_never.2, rfl⟩
theorem ok_X12_never : e_m mX12_never 0 := ⟨tblG_in (inT10 (List.mem_of_getElem? (i := 29) rfl)) rfl, by decide, rfl, ini_12, by decide +kernel, by decide⟩
theorem d_X12_never_0 : decode mX12_never.2.2.1 0 = .ok (.aload_n 0, 1) := by decide +kernel
theorem d_X12_never_1 : decode mX12_never.2.2.1 1 = .ok (.getfield 94, 3) := by decide +kernel
theorem d_X12_never_4 : decode mX12_never.2.2.1 4 = .ok (.aload_n 0, 1) := by decide +kernel
theorem d_X12_never_5 : decode mX12_never.2.2.1 5 = .ok (.getfield 48, 3) := by decide +kernel
theorem d_X12_never_8 : decode mX12_never.2.2.1 8 = .ok (.iaload, 1) := by decide +kernel
theorem d_X12_never_9 : decode mX12_never.2.2.1 9 = .ok (.istore_n 1, 1) := by decide +kernel
theorem d_X12_never_10 : decode mX12_never.2.2.1 10 = .ok (.iconst 0, 1) := by decide +kernel
theorem d_X12_never_11 : decode mX12_never.2.2.1 11 = .ok (.istore_n 2, 1) := by decide +kernel
theorem d_X12_never_12 : decode mX12_never.2.2.1 12 = .ok (.iload_n 2, 1) := by decide +kernel
theorem d_X12_never_13 : decode mX12_never.2.2.1 13 = .ok (.iload_n 1, 1) := by decide +kernel
theorem d_X12_never_14 : decode mX12_never.2.2.1 14 = .ok (.if_icmp .gt 24, 3) := by decide +kernel
theorem d_X12_never_17 : decode mX12_never.2.2.1 17 = .ok (.aload_n 0, 1) := by decide +kernel
theorem d_X12_never_18 : decode mX12_never.2.2.1 18 = .ok (.getfield 375, 3) := by decide +kernel
theorem d_X12_never_21 : decode mX12_never.2.2.1 21 = .ok (.iload_n 2, 1) := by decide +kernel
theorem d_X12_never_22 : decode mX12_never.2.2.1 22 = .ok (.iload_n 2, 1) := by decide +kernel
theorem d_X12_never_23 : decode mX12_never.2.2.1 23 = .ok (.ifCond .ne 7, 3) := by decide +kernel
theorem d_X12_never_26 : decode mX12_never.2.2.1 26 = .ok (.lconst 1, 1) := by decide +kernel
theorem d_X12_never_27 : decode mX12_never.2.2.1 27 = .ok (.goto 4, 3) := by decide +kernel
theorem d_X12_never_31 : decode mX12_never.2.2.1 31 = .ok (.lastore, 1) := by decide +kernel
theorem d_X12_never_32 : decode mX12_never.2.2.1 32 = .ok (.iinc 2 1, 3) := by decide +kernel
theorem d_X12_never_35 : decode mX12_never.2.2.1 35 = .ok (.goto (-23), 3) := by decide +kernel
theorem d_X12_never_38 : decode mX12_never.2.2.1 38 = .ok (.iconst 1, 1) := by decide +kernel
theorem d_X12_never_39 : decode mX12_never.2.2.1 39 = .ok (.istore_n 2, 1) := by decide +kernel
theorem d_X12_never_40 : decode mX12_never.2.2.1 40 = .ok (.iload_n 2, 1) := by decide +kernel
theorem d_X12_never_41 : decode mX12_never.2.2.1 41 = .ok (.ifCond .eq 220, 3) := by decide +kernel
theorem d_X12_never_44 : decode mX12_never.2.2.1 44 = .ok (.iconst 0, 1) := by decide +kernel
theorem d_X12_never_45 : decode mX12_never.2.2.1 45 = .ok (.istore_n 2, 1) := by decide +kernel
theorem d_X12_never_46 : decode mX12_never.2.2.1 46 = .ok (.iconst 0, 1) := by decide +kernel
theorem d_X12_never_47 : decode mX12_never.2.2.1 47 = .ok (.istore_n 3, 1) := by decide +kernel
theorem d_X12_never_48 : decode mX12_never.2.2.1 48 = .ok (.iload_n 3, 1) := by decide +kernel
theorem d_X12_never_49 : decode mX12_never.2.2.1 49 = .ok (.iload_n 1, 1) := by decide +kernel
theorem d_X12_never_50 : decode mX12_never.2.2.1 50 = .ok (.if_icmp .ge 208, 3) := by decide +kernel
theorem d_X12_never_258 : decode mX12_never.2.2.1 258 = .ok (.goto (-218), 3) := by decide +kernel
theorem d_X12_never_261 : decode mX12_never.2.2.1 261 = .ok (.iconst 0, 1) := by decide +kernel
theorem d_X12_never_262 : decode mX12_never.2.2.1 262 = .ok (.istore_n 3, 1) := by decide +kernel
theorem d_X12_never_263 : decode mX12_never.2.2.1 263 = .ok (.iconst 0, 1) := by decide +kernel
theorem d_X12_never_264 : decode mX12_never.2.2.1 264 = .ok (.istore 4, 2) := by decide +kernel
theorem d_X12_never_266 : decode mX12_never.2.2.1 266 = .ok (.iload 4, 2) := by decide +kernel
theorem d_X12_never_268 : decode mX12_never.2.2.1 268 = .ok (.bipush 64, 2) := by decide +kernel
theorem d_X12_never_270 : decode mX12_never.2.2.1 270 = .ok (.if_icmp .ge 30, 3) := by decide +kernel
theorem d_X12_never_273 : decode mX12_never.2.2.1 273 = .ok (.aload_n 0, 1) := by decide +kernel
theorem d_X12_never_274 : decode mX12_never.2.2.1 274 = .ok (.getfield 375, 3) := by decide +kernel
theorem d_X12_never_277 : decode mX12_never.2.2.1 277 = .ok (.iload_n 1, 1) := by decide +kernel
theorem d_X12_never_278 : decode mX12_never.2.2.1 278 = .ok (.laload, 1) := by decide +kernel
theorem d_X12_never_279 : decode mX12_never.2.2.1 279 = .ok (.iload 4, 2) := by decide +kernel
theorem d_X12_never_281 : decode mX12_never.2.2.1 281 = .ok (.lshr, 1) := by decide +kernel
theorem d_X12_never_282 : decode mX12_never.2.2.1 282 = .ok (.lconst 1, 1) := by decide +kernel
theorem d_X12_never_283 : decode mX12_never.2.2.1 283 = .ok (.land, 1) := by decide +kernel
theorem d_X12_never_284 : decode mX12_never.2.2.1 284 = .ok (.lconst 1, 1) := by decide +kernel
theorem d_X12_never_285 : decode mX12_never.2.2.1 285 = .ok (.lcmp, 1) := by decide +kernel
theorem d_X12_never_286 : decode mX12_never.2.2.1 286 = .ok (.ifCond .ne 8, 3) := by decide +kernel
theorem d_X12_never_289 : decode mX12_never.2.2.1 289 = .ok (.iload_n 3, 1) := by decide +kernel
theorem d_X12_never_290 : decode mX12_never.2.2.1 290 = .ok (.iload 4, 2) := by decide +kernel
theorem d_X12_never_292 : decode mX12_never.2.2.1 292 = .ok (.ior, 1) := by decide +kernel
theorem d_X12_never_293 : decode mX12_never.2.2.1 293 = .ok (.istore_n 3, 1) := by decide +kernel
theorem d_X12_never_294 : decode mX12_never.2.2.1 294 = .ok (.iinc 4 1, 3) := by decide +kernel
theorem d_X12_never_297 : decode mX12_never.2.2.1 297 = .ok (.goto (-31), 3) := by decide +kernel
theorem d_X12_never_300 : decode mX12_never.2.2.1 300 = .ok (.iload_n 3, 1) := by decide +kernel
theorem d_X12_never_301 : decode mX12_never.2.2.1 301 = .ok (.ireturn, 1) := by decide +kernel
def mX11_lasts : MD := (11, yX11_lasts, cX11_lasts, 6, some .int)
theorem sel_X11_lasts : Cond.instanceMethod mX11_lasts.2.1 ∈ tblG ∧ Cond.selects mX11_lasts.2.1.cls mX11_lasts.2.1 mX11_lasts.2.1 ∈ tblG := ⟨tblG_in (inT6 (List.mem_of_getElem? (i := 176) rfl)) rfl, tblG_in (inT6 (List.mem_of_getElem? (i := 177) rfl)) rfl⟩
theorem s_13_131 : e_siteV 13 131 mX11_lasts 11 := ⟨tblG_in (inT6 (List.mem_of_getElem? (i := 175) rfl)) rfl, sel_X11_lasts.1, sel_X11_lasts.2, rfl⟩
theorem ok_X11_lasts : e_m mX11_lasts 3 := ⟨tblG_in (inT6 (List.mem_of_getElem? (i := 178) rfl)) rfl, by decide, rfl, ini_11, by decide +kernel, by decide⟩
theorem d_X11_lasts_0 : decode mX11_lasts.2.2.1 0 = .ok (.aload_n 0, 1) := by decide +kernel
theorem d_X11_lasts_1 : decode mX11_lasts.2.2.1 1 = .ok (.getfield 109, 3) := by decide +kernel
theorem d_X11_lasts_4 : decode mX11_lasts.2.2.1 4 = .ok (.ifCond .eq 14, 3) := by decide +kernel
theorem d_X11_lasts_18 : decode mX11_lasts.2.2.1 18 = .ok (.iconst (-1), 1) := by decide +kernel
theorem d_X11_lasts_19 : decode mX11_lasts.2.2.1 19 = .ok (.ireturn, 1) := by decide +kernel
def mX12_lasts : MD := (12, yX12_lasts, cX12_lasts, 7, some .int)
theorem sel_X12_lasts : Cond.instanceMethod mX12_lasts.2.1 ∈ tblG ∧ Cond.selects mX12_lasts.2.1.cls mX12_lasts.2.1 mX12_lasts.2.1 ∈ tblG := ⟨tblG_in (inT10 (List.mem_of_getElem? (i := 34) rfl)) rfl, tblG_in (inT10 (List.mem_of_getElem? (i := 35) rfl)) rfl⟩
theorem s_13_134 : e_siteV 13 134 mX12_lasts 12 := ⟨tblG_in (inT10 (List.mem_of_getElem? (i := 33) rfl)) rfl, sel_X12_lasts.1, sel_X12_lasts.2, rfl⟩
theorem ok_X12_lasts : e_m mX12_lasts 3 := ⟨tblG_in (inT10 (List.mem_of_getElem? (i := 36) rfl)) rfl, by decide, rfl, ini_12, by decide +kernel, by decide⟩
theorem d_X12_lasts_0 : decode mX12_lasts.2.2.1 0 = .ok (.aload_n 0, 1) := by decide +kernel
theorem d_X12_lasts_1 : decode mX12_lasts.2.2.1 1 = .ok (.getfield 270, 3) := by decide +kernel
theorem d_X12_lasts_4 : decode mX12_lasts.2.2.1 4 = .ok (.ifCond .eq 36, 3) := by decide +kernel
theorem d_X12_lasts_40 : decode mX12_lasts.2.2.1 40 = .ok (.iconst (-1), 1) := by decide +kernel
theorem d_X12_lasts_41 : decode mX12_lasts.2.2.1 41 = .ok (.ireturn, 1) := by decide +kernel
theorem b_0_1 : rd C_461 0 1 = 0 := by decide +kernel
theorem b_120_1 : rd C_461 120 1 = 0 := by decide +kernel
theorem b_0_5 : rd C_461 0 5 = 27 := by decide +kernel
theorem b_0_4 : rd C_461 0 4 = 7 := by decide +kernel
theorem b_120_12 : rd C_461 120 12 = 0 := by decide +kernel
theorem b_6_1 : rd C_461 6 1 = (-1) := by decide +kernel
theorem b_120_11 : rd C_461 120 11 = (-1) := by decide +kernel
theorem b_6_0 : rd C_461 6 0 = 0 := by decide +kernel
theorem b_120_10 : rd C_461 120 10 = 0 := by decide +kernel
theorem b_8_0 : rd C_461 8 0 = 0 := by decide +kernel
theorem b_126_0 : rd C_461 126 0 = 0 := by decide +kernel
theorem b_8_1 : rd C_461 8 1 = 0 := by decide +kernel
theorem b_127_0 : rd C_461 127 0 = 0 := by decide +kernel
theorem b_8_2 : rd C_461 8 2 = 0 := by decide +kernel
theorem b_128_0 : rd C_461 128 0 = 0 := by decide +kernel
theorem b_15_0 : rd C_461 15 0 = 0 := by decide +kernel
theorem b_129_0 : rd C_461 129 0 = 0 := by decide +kernel
theorem b_107_0 : rd C_461 107 0 = 0 := by decide +kernel
theorem b_120_106 : rd C_461 120 106 = 0 := by decide +kernel
theorem b_113_0 : rd C_461 113 0 = 0 := by decide +kernel
theorem b_120_113 : rd C_461 120 113 = 0 := by decide +kernel
theorem b_47_0 : rd C_461 47 0 = 0 := by decide +kernel
theorem b_47_1 : rd C_461 47 1 = 0 := by decide +kernel
theorem b_47_2 : rd C_461 47 2 = 0 := by decide +kernel
theorem b_56_0 : rd C_461 56 0 = 1 := by decide +kernel
theorem b_7_0 : rd C_461 7 0 = 1 := by decide +kernel
theorem b_153_0 : rd C_461 153 0 = 0 := by decide +kernel
theorem b_153_1 : rd C_461 153 1 = 0 := by decide +kernel
theorem b_153_2 : rd C_461 153 2 = 0 := by decide +kernel
theorem b_136_0 : rd C_461 136 0 = 0 := by decide +kernel
theorem b_0_9 : rd C_461 0 9 = 0 := by decide +kernel
theorem b_120_85 : rd C_461 120 85 = 0 := by decide +kernel
theorem b_12_0 : rd C_461 12 0 = 0 := by decide +kernel
theorem b_12_1 : rd C_461 12 1 = 0 := by decide +kernel
theorem b_12_2 : rd C_461 12 2 = 0 := by decide +kernel
theorem b_103_0 : rd C_461 103 0 = 0 := by decide +kernel
theorem b_82_0 : rd C_461 82 0 = 0 := by decide +kernel
theorem b_120_104 : rd C_461 120 104 = 0 := by decide +kernel
theorem b_107_1 : rd C_461 107 1 = 0 := by decide +kernel
theorem b_120_109 : rd C_461 120 109 = 0 := by decide +kernel
theorem b_113_7 : rd C_461 113 7 = 0 := by decide +kernel
theorem b_120_117 : rd C_461 120 117 = 0 := by decide +kernel
