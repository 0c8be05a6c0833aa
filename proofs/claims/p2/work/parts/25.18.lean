theorem d_X5_isOrder_26 : decode mX5_isOrder.2.2.1 26 = .ok (.if_icmp .ne 18, 3) := by decide +kernel
theorem d_X5_isOrder_44 : decode mX5_isOrder.2.2.1 44 = .ok (.iconst 0, 1) := by decide +kernel
theorem d_X5_isOrder_45 : decode mX5_isOrder.2.2.1 45 = .ok (.ireturn, 1) := by decide +kernel
theorem d_X5_isOrder_29 : decode mX5_isOrder.2.2.1 29 = .ok (.iload_n 1, 1) := by decide +kernel
theorem d_X5_isOrder_30 : decode mX5_isOrder.2.2.1 30 = .ok (.iconst 5, 1) := by decide +kernel
theorem d_X5_isOrder_31 : decode mX5_isOrder.2.2.1 31 = .ok (.if_icmp .lt 13, 3) := by decide +kernel
theorem d_X5_isOrder_34 : decode mX5_isOrder.2.2.1 34 = .ok (.iload_n 1, 1) := by decide +kernel
theorem d_X5_isOrder_35 : decode mX5_isOrder.2.2.1 35 = .ok (.bipush 12, 2) := by decide +kernel
theorem d_X5_isOrder_37 : decode mX5_isOrder.2.2.1 37 = .ok (.if_icmp .gt 7, 3) := by decide +kernel
theorem d_X5_isOrder_40 : decode mX5_isOrder.2.2.1 40 = .ok (.iconst 1, 1) := by decide +kernel
theorem d_X5_isOrder_41 : decode mX5_isOrder.2.2.1 41 = .ok (.goto 4, 3) := by decide +kernel
def mX4_open : MD := (4, yX4_open, cX4_open, 4, some .int)
theorem d_X4_open_0 : decode mX4_open.2.2.1 0 = .ok (.aload_n 0, 1) := by decide +kernel
theorem d_X4_open_1 : decode mX4_open.2.2.1 1 = .ok (.getfield 45, 3) := by decide +kernel
theorem d_X4_open_4 : decode mX4_open.2.2.1 4 = .ok (.istore_n 3, 1) := by decide +kernel
theorem d_X4_open_5 : decode mX4_open.2.2.1 5 = .ok (.aload_n 0, 1) := by decide +kernel
theorem d_X4_open_6 : decode mX4_open.2.2.1 6 = .ok (.getfield 9, 3) := by decide +kernel
theorem d_X4_open_9 : decode mX4_open.2.2.1 9 = .ok (.iload_n 3, 1) := by decide +kernel
theorem d_X4_open_10 : decode mX4_open.2.2.1 10 = .ok (.iload_n 1, 1) := by decide +kernel
theorem d_X4_open_11 : decode mX4_open.2.2.1 11 = .ok (.iastore, 1) := by decide +kernel
theorem d_X4_open_12 : decode mX4_open.2.2.1 12 = .ok (.aload_n 0, 1) := by decide +kernel
theorem d_X4_open_13 : decode mX4_open.2.2.1 13 = .ok (.getfield 15, 3) := by decide +kernel
theorem d_X4_open_16 : decode mX4_open.2.2.1 16 = .ok (.iload_n 3, 1) := by decide +kernel
theorem d_X4_open_17 : decode mX4_open.2.2.1 17 = .ok (.iconst 0, 1) := by decide +kernel
theorem d_X4_open_18 : decode mX4_open.2.2.1 18 = .ok (.iastore, 1) := by decide +kernel
theorem d_X4_open_19 : decode mX4_open.2.2.1 19 = .ok (.aload_n 0, 1) := by decide +kernel
theorem d_X4_open_20 : decode mX4_open.2.2.1 20 = .ok (.getfield 18, 3) := by decide +kernel
theorem d_X4_open_23 : decode mX4_open.2.2.1 23 = .ok (.iload_n 3, 1) := by decide +kernel
theorem d_X4_open_24 : decode mX4_open.2.2.1 24 = .ok (.aload_n 0, 1) := by decide +kernel
theorem d_X4_open_25 : decode mX4_open.2.2.1 25 = .ok (.getfield 49, 3) := by decide +kernel
theorem d_X4_open_28 : decode mX4_open.2.2.1 28 = .ok (.iastore, 1) := by decide +kernel
theorem d_X4_open_29 : decode mX4_open.2.2.1 29 = .ok (.aload_n 0, 1) := by decide +kernel
theorem d_X4_open_30 : decode mX4_open.2.2.1 30 = .ok (.getfield 21, 3) := by decide +kernel
theorem d_X4_open_33 : decode mX4_open.2.2.1 33 = .ok (.iload_n 3, 1) := by decide +kernel
theorem d_X4_open_34 : decode mX4_open.2.2.1 34 = .ok (.iconst (-1), 1) := by decide +kernel
theorem d_X4_open_35 : decode mX4_open.2.2.1 35 = .ok (.iastore, 1) := by decide +kernel
theorem d_X4_open_36 : decode mX4_open.2.2.1 36 = .ok (.aload_n 0, 1) := by decide +kernel
theorem d_X4_open_37 : decode mX4_open.2.2.1 37 = .ok (.getfield 24, 3) := by decide +kernel
theorem d_X4_open_40 : decode mX4_open.2.2.1 40 = .ok (.iload_n 3, 1) := by decide +kernel
theorem d_X4_open_41 : decode mX4_open.2.2.1 41 = .ok (.iconst (-1), 1) := by decide +kernel
theorem d_X4_open_42 : decode mX4_open.2.2.1 42 = .ok (.iastore, 1) := by decide +kernel
theorem d_X4_open_43 : decode mX4_open.2.2.1 43 = .ok (.aload_n 0, 1) := by decide +kernel
theorem d_X4_open_44 : decode mX4_open.2.2.1 44 = .ok (.getfield 27, 3) := by decide +kernel
theorem d_X4_open_47 : decode mX4_open.2.2.1 47 = .ok (.iload_n 3, 1) := by decide +kernel
theorem d_X4_open_48 : decode mX4_open.2.2.1 48 = .ok (.iconst (-1), 1) := by decide +kernel
theorem d_X4_open_49 : decode mX4_open.2.2.1 49 = .ok (.iastore, 1) := by decide +kernel
theorem d_X4_open_50 : decode mX4_open.2.2.1 50 = .ok (.aload_n 0, 1) := by decide +kernel
theorem d_X4_open_51 : decode mX4_open.2.2.1 51 = .ok (.getfield 30, 3) := by decide +kernel
theorem d_X4_open_54 : decode mX4_open.2.2.1 54 = .ok (.iload_n 3, 1) := by decide +kernel
theorem d_X4_open_55 : decode mX4_open.2.2.1 55 = .ok (.iload_n 2, 1) := by decide +kernel
theorem d_X4_open_56 : decode mX4_open.2.2.1 56 = .ok (.iastore, 1) := by decide +kernel
theorem d_X4_open_57 : decode mX4_open.2.2.1 57 = .ok (.aload_n 0, 1) := by decide +kernel
theorem d_X4_open_58 : decode mX4_open.2.2.1 58 = .ok (.dup, 1) := by decide +kernel
theorem d_X4_open_59 : decode mX4_open.2.2.1 59 = .ok (.getfield 45, 3) := by decide +kernel
theorem d_X4_open_62 : decode mX4_open.2.2.1 62 = .ok (.iconst 1, 1) := by decide +kernel
theorem d_X4_open_63 : decode mX4_open.2.2.1 63 = .ok (.iadd, 1) := by decide +kernel
theorem d_X4_open_64 : decode mX4_open.2.2.1 64 = .ok (.putfield 45, 3) := by decide +kernel
theorem d_X4_open_67 : decode mX4_open.2.2.1 67 = .ok (.iload_n 3, 1) := by decide +kernel
theorem d_X4_open_68 : decode mX4_open.2.2.1 68 = .ok (.ireturn, 1) := by decide +kernel
def mX4_emit : MD := (4, yX4_emit, cX4_emit, 3, none)
theorem sel_X4_emit : Cond.instanceMethod mX4_emit.2.1 ∈ tblG ∧ Cond.selects mX4_emit.2.1.cls mX4_emit.2.1 mX4_emit.2.1 ∈ tblG := ⟨tblG_in (inT4 (List.mem_of_getElem? (i := 136) rfl)) rfl, tblG_in (inT4 (List.mem_of_getElem? (i := 137) rfl)) rfl⟩
theorem s_5_215 : e_siteV 5 215 mX4_emit 4 := ⟨tblG_in (inT4 (List.mem_of_getElem? (i := 135) rfl)) rfl, sel_X4_emit.1, sel_X4_emit.2, rfl⟩
theorem d_X4_emit_0 : decode mX4_emit.2.2.1 0 = .ok (.aload_n 0, 1) := by decide +kernel
theorem d_X4_emit_1 : decode mX4_emit.2.2.1 1 = .ok (.getfield 49, 3) := by decide +kernel
theorem d_X4_emit_4 : decode mX4_emit.2.2.1 4 = .ok (.sipush 900, 3) := by decide +kernel
theorem d_X4_emit_7 : decode mX4_emit.2.2.1 7 = .ok (.if_icmp .ge 33, 3) := by decide +kernel
theorem d_X4_emit_10 : decode mX4_emit.2.2.1 10 = .ok (.aload_n 0, 1) := by decide +kernel
theorem d_X4_emit_11 : decode mX4_emit.2.2.1 11 = .ok (.getfield 36, 3) := by decide +kernel
theorem d_X4_emit_14 : decode mX4_emit.2.2.1 14 = .ok (.aload_n 0, 1) := by decide +kernel
theorem d_X4_emit_15 : decode mX4_emit.2.2.1 15 = .ok (.getfield 49, 3) := by decide +kernel
theorem d_X4_emit_18 : decode mX4_emit.2.2.1 18 = .ok (.iload_n 1, 1) := by decide +kernel
theorem d_X4_emit_19 : decode mX4_emit.2.2.1 19 = .ok (.iastore, 1) := by decide +kernel
theorem d_X4_emit_20 : decode mX4_emit.2.2.1 20 = .ok (.aload_n 0, 1) := by decide +kernel
theorem d_X4_emit_21 : decode mX4_emit.2.2.1 21 = .ok (.getfield 39, 3) := by decide +kernel
theorem d_X4_emit_24 : decode mX4_emit.2.2.1 24 = .ok (.aload_n 0, 1) := by decide +kernel
theorem d_X4_emit_25 : decode mX4_emit.2.2.1 25 = .ok (.getfield 49, 3) := by decide +kernel
theorem d_X4_emit_28 : decode mX4_emit.2.2.1 28 = .ok (.iload_n 2, 1) := by decide +kernel
theorem d_X4_emit_29 : decode mX4_emit.2.2.1 29 = .ok (.iastore, 1) := by decide +kernel
theorem d_X4_emit_30 : decode mX4_emit.2.2.1 30 = .ok (.aload_n 0, 1) := by decide +kernel
theorem d_X4_emit_31 : decode mX4_emit.2.2.1 31 = .ok (.dup, 1) := by decide +kernel
theorem d_X4_emit_32 : decode mX4_emit.2.2.1 32 = .ok (.getfield 49, 3) := by decide +kernel
theorem d_X4_emit_35 : decode mX4_emit.2.2.1 35 = .ok (.iconst 1, 1) := by decide +kernel
theorem d_X4_emit_36 : decode mX4_emit.2.2.1 36 = .ok (.iadd, 1) := by decide +kernel
theorem d_X4_emit_37 : decode mX4_emit.2.2.1 37 = .ok (.putfield 49, 3) := by decide +kernel
theorem d_X4_emit_40 : decode mX4_emit.2.2.1 40 = .ok (.return_, 1) := by decide +kernel
theorem ok_X4_emit : e_m mX4_emit 2 := ⟨tblG_in (inT4 (List.mem_of_getElem? (i := 138) rfl)) rfl, plainFor_of_name (by decide), rfl, ini_4, by decide +kernel, by decide⟩
def mX5_takeOpening : MD := (5, yX5_takeOpening, cX5_takeOpening, 2, some .boolean)
theorem sel_X5_takeOpening : Cond.instanceMethod mX5_takeOpening.2.1 ∈ tblG ∧ Cond.selects mX5_takeOpening.2.1.cls mX5_takeOpening.2.1 mX5_takeOpening.2.1 ∈ tblG := ⟨tblG_in (inT4 (List.mem_of_getElem? (i := 145) rfl)) rfl, tblG_in (inP3 (q := (mX5_takeOpening.2.1, 7)) (List.mem_of_getElem? (i := 0) rfl)) rfl⟩
theorem s_5_206 : e_siteV 5 206 mX5_takeOpening 5 := ⟨tblG_in (inT4 (List.mem_of_getElem? (i := 143) rfl)) rfl, sel_X5_takeOpening.1, sel_X5_takeOpening.2, rfl⟩
theorem d_X5_takeOpening_0 : decode mX5_takeOpening.2.2.1 0 = .ok (.aload_n 0, 1) := by decide +kernel
theorem d_X5_takeOpening_1 : decode mX5_takeOpening.2.2.1 1 = .ok (.iload_n 1, 1) := by decide +kernel
theorem d_X5_takeOpening_2 : decode mX5_takeOpening.2.2.1 2 = .ok (.invokevirtual 77, 3) := by decide +kernel
theorem d_X5_takeOpening_5 : decode mX5_takeOpening.2.2.1 5 = .ok (.ifCond .ne 9, 3) := by decide +kernel
theorem d_X5_takeOpening_14 : decode mX5_takeOpening.2.2.1 14 = .ok (.aload_n 0, 1) := by decide +kernel
theorem d_X5_takeOpening_15 : decode mX5_takeOpening.2.2.1 15 = .ok (.getfield 39, 3) := by decide +kernel
theorem d_X5_takeOpening_18 : decode mX5_takeOpening.2.2.1 18 = .ok (.bipush 8, 2) := by decide +kernel
theorem d_X5_takeOpening_20 : decode mX5_takeOpening.2.2.1 20 = .ok (.if_icmp .ne 9, 3) := by decide +kernel
theorem d_X5_takeOpening_29 : decode mX5_takeOpening.2.2.1 29 = .ok (.aload_n 0, 1) := by decide +kernel
theorem d_X5_takeOpening_30 : decode mX5_takeOpening.2.2.1 30 = .ok (.dup, 1) := by decide +kernel
theorem d_X5_takeOpening_31 : decode mX5_takeOpening.2.2.1 31 = .ok (.getfield 39, 3) := by decide +kernel
theorem d_X5_takeOpening_34 : decode mX5_takeOpening.2.2.1 34 = .ok (.iconst 1, 1) := by decide +kernel
theorem d_X5_takeOpening_35 : decode mX5_takeOpening.2.2.1 35 = .ok (.iadd, 1) := by decide +kernel
theorem d_X5_takeOpening_36 : decode mX5_takeOpening.2.2.1 36 = .ok (.putfield 39, 3) := by decide +kernel
theorem d_X5_takeOpening_39 : decode mX5_takeOpening.2.2.1 39 = .ok (.aload_n 0, 1) := by decide +kernel
theorem d_X5_takeOpening_40 : decode mX5_takeOpening.2.2.1 40 = .ok (.invokevirtual 74, 3) := by decide +kernel
theorem d_X5_takeOpening_43 : decode mX5_takeOpening.2.2.1 43 = .ok (.ireturn, 1) := by decide +kernel
theorem d_X5_takeOpening_8 : decode mX5_takeOpening.2.2.1 8 = .ok (.aload_n 0, 1) := by decide +kernel
theorem d_X5_takeOpening_9 : decode mX5_takeOpening.2.2.1 9 = .ok (.iconst 1, 1) := by decide +kernel
theorem d_X5_takeOpening_10 : decode mX5_takeOpening.2.2.1 10 = .ok (.invokevirtual 56, 3) := by decide +kernel
theorem d_X5_takeOpening_13 : decode mX5_takeOpening.2.2.1 13 = .ok (.ireturn, 1) := by decide +kernel
theorem ok_X5_takeOpening : e_m mX5_takeOpening 1 := ⟨tblG_in (inT4 (List.mem_of_getElem? (i := 146) rfl)) rfl, plainFor_of_name (by decide), rfl, ini_5, by decide +kernel, by decide⟩
theorem d_X5_takeOpening_23 : decode mX5_takeOpening.2.2.1 23 = .ok (.aload_n 0, 1) := by decide +kernel
theorem d_X5_takeOpening_24 : decode mX5_takeOpening.2.2.1 24 = .ok (.iconst 5, 1) := by decide +kernel
theorem d_X5_takeOpening_25 : decode mX5_takeOpening.2.2.1 25 = .ok (.invokevirtual 56, 3) := by decide +kernel
theorem d_X5_takeOpening_28 : decode mX5_takeOpening.2.2.1 28 = .ok (.ireturn, 1) := by decide +kernel
def mX5_choice : MD := (5, yX5_choice, cX5_choice, 3, some .boolean)
theorem d_X5_choice_0 : decode mX5_choice.2.2.1 0 = .ok (.aload_n 0, 1) := by decide +kernel
theorem d_X5_choice_1 : decode mX5_choice.2.2.1 1 = .ok (.invokevirtual 74, 3) := by decide +kernel
theorem d_X5_choice_4 : decode mX5_choice.2.2.1 4 = .ok (.pop, 1) := by decide +kernel
theorem d_X5_choice_5 : decode mX5_choice.2.2.1 5 = .ok (.aload_n 0, 1) := by decide +kernel
theorem d_X5_choice_6 : decode mX5_choice.2.2.1 6 = .ok (.bipush 40, 2) := by decide +kernel
theorem d_X5_choice_8 : decode mX5_choice.2.2.1 8 = .ok (.invokevirtual 206, 3) := by decide +kernel
theorem d_X5_choice_11 : decode mX5_choice.2.2.1 11 = .ok (.ifCond .eq 39, 3) := by decide +kernel
theorem d_X5_choice_50 : decode mX5_choice.2.2.1 50 = .ok (.iconst 0, 1) := by decide +kernel
theorem d_X5_choice_51 : decode mX5_choice.2.2.1 51 = .ok (.istore_n 2, 1) := by decide +kernel
theorem d_X5_choice_52 : decode mX5_choice.2.2.1 52 = .ok (.aload_n 0, 1) := by decide +kernel
theorem d_X5_choice_53 : decode mX5_choice.2.2.1 53 = .ok (.getfield 32, 3) := by decide +kernel
theorem d_X5_choice_56 : decode mX5_choice.2.2.1 56 = .ok (.iload_n 1, 1) := by decide +kernel
theorem d_X5_choice_57 : decode mX5_choice.2.2.1 57 = .ok (.iconst 0, 1) := by decide +kernel
theorem d_X5_choice_58 : decode mX5_choice.2.2.1 58 = .ok (.invokevirtual 215, 3) := by decide +kernel
theorem d_X5_choice_61 : decode mX5_choice.2.2.1 61 = .ok (.iload_n 2, 1) := by decide +kernel
theorem d_X5_choice_62 : decode mX5_choice.2.2.1 62 = .ok (.ireturn, 1) := by decide +kernel
def mX5_takeClosing : MD := (5, yX5_takeClosing, cX5_takeClosing, 2, some .boolean)
theorem d_X5_takeClosing_0 : decode mX5_takeClosing.2.2.1 0 = .ok (.aload_n 0, 1) := by decide +kernel
theorem d_X5_takeClosing_1 : decode mX5_takeClosing.2.2.1 1 = .ok (.iload_n 1, 1) := by decide +kernel
theorem d_X5_takeClosing_2 : decode mX5_takeClosing.2.2.1 2 = .ok (.invokevirtual 81, 3) := by decide +kernel
theorem d_X5_takeClosing_5 : decode mX5_takeClosing.2.2.1 5 = .ok (.ifCond .ne 5, 3) := by decide +kernel
theorem d_X5_takeClosing_10 : decode mX5_takeClosing.2.2.1 10 = .ok (.aload_n 0, 1) := by decide +kernel
theorem d_X5_takeClosing_11 : decode mX5_takeClosing.2.2.1 11 = .ok (.dup, 1) := by decide +kernel
theorem d_X5_takeClosing_12 : decode mX5_takeClosing.2.2.1 12 = .ok (.getfield 39, 3) := by decide +kernel
theorem d_X5_takeClosing_15 : decode mX5_takeClosing.2.2.1 15 = .ok (.iconst 1, 1) := by decide +kernel
theorem d_X5_takeClosing_16 : decode mX5_takeClosing.2.2.1 16 = .ok (.isub, 1) := by decide +kernel
theorem d_X5_takeClosing_17 : decode mX5_takeClosing.2.2.1 17 = .ok (.putfield 39, 3) := by decide +kernel
theorem d_X5_takeClosing_20 : decode mX5_takeClosing.2.2.1 20 = .ok (.iconst 1, 1) := by decide +kernel
theorem d_X5_takeClosing_21 : decode mX5_takeClosing.2.2.1 21 = .ok (.ireturn, 1) := by decide +kernel
theorem d_X5_takeClosing_8 : decode mX5_takeClosing.2.2.1 8 = .ok (.iconst 0, 1) := by decide +kernel
theorem d_X5_takeClosing_9 : decode mX5_takeClosing.2.2.1 9 = .ok (.ireturn, 1) := by decide +kernel
def mX5_yesBlock : MD := (5, yX5_yesBlock, cX5_yesBlock, 3, some .boolean)
theorem d_X5_yesBlock_0 : decode mX5_yesBlock.2.2.1 0 = .ok (.aload_n 0, 1) := by decide +kernel
theorem d_X5_yesBlock_1 : decode mX5_yesBlock.2.2.1 1 = .ok (.iload_n 1, 1) := by decide +kernel
theorem d_X5_yesBlock_2 : decode mX5_yesBlock.2.2.1 2 = .ok (.invokevirtual 197, 3) := by decide +kernel
def mX5_block : MD := (5, yX5_block, cX5_block, 3, some .int)
theorem sel_X5_block : Cond.instanceMethod mX5_block.2.1 ∈ tblG ∧ Cond.selects mX5_block.2.1.cls mX5_block.2.1 mX5_block.2.1 ∈ tblG := ⟨tblG_in (inT4 (List.mem_of_getElem? (i := 177) rfl)) rfl, tblG_in (inP3 (q := (mX5_block.2.1, 7)) (List.mem_of_getElem? (i := 8) rfl)) rfl⟩
theorem s_5_197 : e_siteV 5 197 mX5_block 5 := ⟨tblG_in (inT4 (List.mem_of_getElem? (i := 175) rfl)) rfl, sel_X5_block.1, sel_X5_block.2, rfl⟩
theorem d_X5_block_0 : decode mX5_block.2.2.1 0 = .ok (.aload_n 0, 1) := by decide +kernel
theorem d_X5_block_1 : decode mX5_block.2.2.1 1 = .ok (.bipush 123, 2) := by decide +kernel
theorem d_X5_block_3 : decode mX5_block.2.2.1 3 = .ok (.invokevirtual 206, 3) := by decide +kernel
theorem d_X5_block_6 : decode mX5_block.2.2.1 6 = .ok (.ifCond .ne 6, 3) := by decide +kernel
theorem d_X5_block_9 : decode mX5_block.2.2.1 9 = .ok (.bipush (-2), 2) := by decide +kernel
theorem d_X5_block_11 : decode mX5_block.2.2.1 11 = .ok (.ireturn, 1) := by decide +kernel
theorem ok_X5_block : e_m mX5_block 1 := ⟨tblG_in (inT4 (List.mem_of_getElem? (i := 178) rfl)) rfl, plainFor_of_name (by decide), rfl, ini_5, by decide +kernel, by decide⟩
theorem d_X5_yesBlock_5 : decode mX5_yesBlock.2.2.1 5 = .ok (.istore_n 2, 1) := by decide +kernel
theorem d_X5_yesBlock_6 : decode mX5_yesBlock.2.2.1 6 = .ok (.aload_n 0, 1) := by decide +kernel
theorem d_X5_yesBlock_7 : decode mX5_yesBlock.2.2.1 7 = .ok (.getfield 32, 3) := by decide +kernel
theorem d_X5_yesBlock_10 : decode mX5_yesBlock.2.2.1 10 = .ok (.getfield 200, 3) := by decide +kernel
theorem f_5_200 : e_fld 5 200 4 4 13 2 true := ⟨RX4, TX4, 4, rfl, rfl, by decide, rfl, rfl, rfl, iX4, tblG_in (inT1 (List.mem_of_getElem? (i := 118) rfl)) rfl, tyX4_ok, nmX4⟩
theorem d_X5_yesBlock_13 : decode mX5_yesBlock.2.2.1 13 = .ok (.iload_n 1, 1) := by decide +kernel
theorem d_X5_yesBlock_14 : decode mX5_yesBlock.2.2.1 14 = .ok (.iload_n 2, 1) := by decide +kernel
theorem d_X5_yesBlock_15 : decode mX5_yesBlock.2.2.1 15 = .ok (.iastore, 1) := by decide +kernel
theorem d_X5_yesBlock_16 : decode mX5_yesBlock.2.2.1 16 = .ok (.iload_n 2, 1) := by decide +kernel
theorem d_X5_yesBlock_17 : decode mX5_yesBlock.2.2.1 17 = .ok (.bipush (-2), 2) := by decide +kernel
theorem d_X5_yesBlock_19 : decode mX5_yesBlock.2.2.1 19 = .ok (.if_icmp .eq 7, 3) := by decide +kernel
theorem d_X5_yesBlock_26 : decode mX5_yesBlock.2.2.1 26 = .ok (.iconst 0, 1) := by decide +kernel
theorem d_X5_yesBlock_27 : decode mX5_yesBlock.2.2.1 27 = .ok (.ireturn, 1) := by decide +kernel
def mX4_link : MD := (4, yX4_link, cX4_link, 3, none)
theorem d_X4_link_0 : decode mX4_link.2.2.1 0 = .ok (.aload_n 0, 1) := by decide +kernel
theorem d_X4_link_1 : decode mX4_link.2.2.1 1 = .ok (.getfield 18, 3) := by decide +kernel
theorem d_X4_link_4 : decode mX4_link.2.2.1 4 = .ok (.aload_n 0, 1) := by decide +kernel
theorem d_X4_link_5 : decode mX4_link.2.2.1 5 = .ok (.getfield 45, 3) := by decide +kernel
theorem d_X4_link_8 : decode mX4_link.2.2.1 8 = .ok (.aload_n 0, 1) := by decide +kernel
theorem d_X4_link_9 : decode mX4_link.2.2.1 9 = .ok (.getfield 49, 3) := by decide +kernel
theorem d_X4_link_12 : decode mX4_link.2.2.1 12 = .ok (.iastore, 1) := by decide +kernel
theorem d_X4_link_13 : decode mX4_link.2.2.1 13 = .ok (.iconst 0, 1) := by decide +kernel
theorem d_X4_link_14 : decode mX4_link.2.2.1 14 = .ok (.istore_n 1, 1) := by decide +kernel
theorem d_X4_link_15 : decode mX4_link.2.2.1 15 = .ok (.iload_n 1, 1) := by decide +kernel
theorem d_X4_link_16 : decode mX4_link.2.2.1 16 = .ok (.aload_n 0, 1) := by decide +kernel
theorem d_X4_link_17 : decode mX4_link.2.2.1 17 = .ok (.getfield 45, 3) := by decide +kernel
theorem d_X4_link_20 : decode mX4_link.2.2.1 20 = .ok (.if_icmp .ge 87, 3) := by decide +kernel
theorem d_X4_link_107 : decode mX4_link.2.2.1 107 = .ok (.return_, 1) := by decide +kernel
theorem d_X4_link_23 : decode mX4_link.2.2.1 23 = .ok (.aload_n 0, 1) := by decide +kernel
theorem d_X4_link_24 : decode mX4_link.2.2.1 24 = .ok (.getfield 33, 3) := by decide +kernel
theorem d_X4_link_27 : decode mX4_link.2.2.1 27 = .ok (.iload_n 1, 1) := by decide +kernel
theorem d_X4_link_28 : decode mX4_link.2.2.1 28 = .ok (.aload_n 0, 1) := by decide +kernel
theorem d_X4_link_29 : decode mX4_link.2.2.1 29 = .ok (.iload_n 1, 1) := by decide +kernel
theorem d_X4_link_30 : decode mX4_link.2.2.1 30 = .ok (.invokevirtual 52, 3) := by decide +kernel
def mX4_behind : MD := (4, yX4_behind, cX4_behind, 3, some .int)
theorem sel_X4_behind : Cond.instanceMethod mX4_behind.2.1 ∈ tblG ∧ Cond.selects mX4_behind.2.1.cls mX4_behind.2.1 mX4_behind.2.1 ∈ tblG := ⟨tblG_in (inT4 (List.mem_of_getElem? (i := 189) rfl)) rfl, tblG_in (inP3 (q := (mX4_behind.2.1, 13)) (List.mem_of_getElem? (i := 10) rfl)) rfl⟩
theorem s_4_52 : e_siteV 4 52 mX4_behind 4 := ⟨tblG_in (inT4 (List.mem_of_getElem? (i := 187) rfl)) rfl, sel_X4_behind.1, sel_X4_behind.2, rfl⟩
theorem d_X4_behind_0 : decode mX4_behind.2.2.1 0 = .ok (.aload_n 0, 1) := by decide +kernel
theorem d_X4_behind_1 : decode mX4_behind.2.2.1 1 = .ok (.getfield 27, 3) := by decide +kernel
theorem d_X4_behind_4 : decode mX4_behind.2.2.1 4 = .ok (.iload_n 1, 1) := by decide +kernel
theorem d_X4_behind_5 : decode mX4_behind.2.2.1 5 = .ok (.iaload, 1) := by decide +kernel
theorem d_X4_behind_6 : decode mX4_behind.2.2.1 6 = .ok (.ifCond .lt 10, 3) := by decide +kernel
theorem d_X4_behind_16 : decode mX4_behind.2.2.1 16 = .ok (.aload_n 0, 1) := by decide +kernel
theorem d_X4_behind_17 : decode mX4_behind.2.2.1 17 = .ok (.getfield 30, 3) := by decide +kernel
theorem d_X4_behind_20 : decode mX4_behind.2.2.1 20 = .ok (.iload_n 1, 1) := by decide +kernel
theorem d_X4_behind_21 : decode mX4_behind.2.2.1 21 = .ok (.iaload, 1) := by decide +kernel
theorem d_X4_behind_22 : decode mX4_behind.2.2.1 22 = .ok (.istore_n 2, 1) := by decide +kernel
theorem d_X4_behind_23 : decode mX4_behind.2.2.1 23 = .ok (.iload_n 2, 1) := by decide +kernel
theorem d_X4_behind_24 : decode mX4_behind.2.2.1 24 = .ok (.ifCond .ge 8, 3) := by decide +kernel
theorem d_X4_behind_32 : decode mX4_behind.2.2.1 32 = .ok (.aload_n 0, 1) := by decide +kernel
theorem d_X4_behind_33 : decode mX4_behind.2.2.1 33 = .ok (.getfield 9, 3) := by decide +kernel
theorem d_X4_behind_36 : decode mX4_behind.2.2.1 36 = .ok (.iload_n 2, 1) := by decide +kernel
theorem d_X4_behind_37 : decode mX4_behind.2.2.1 37 = .ok (.iaload, 1) := by decide +kernel
theorem d_X4_behind_38 : decode mX4_behind.2.2.1 38 = .ok (.bipush 12, 2) := by decide +kernel
theorem d_X4_behind_40 : decode mX4_behind.2.2.1 40 = .ok (.if_icmp .ne 7, 3) := by decide +kernel
theorem d_X4_behind_47 : decode mX4_behind.2.2.1 47 = .ok (.aload_n 0, 1) := by decide +kernel
theorem d_X4_behind_48 : decode mX4_behind.2.2.1 48 = .ok (.getfield 33, 3) := by decide +kernel
theorem d_X4_behind_51 : decode mX4_behind.2.2.1 51 = .ok (.iload_n 2, 1) := by decide +kernel
theorem d_X4_behind_52 : decode mX4_behind.2.2.1 52 = .ok (.iaload, 1) := by decide +kernel
theorem d_X4_behind_53 : decode mX4_behind.2.2.1 53 = .ok (.ireturn, 1) := by decide +kernel
theorem d_X4_behind_43 : decode mX4_behind.2.2.1 43 = .ok (.iload_n 2, 1) := by decide +kernel
theorem d_X4_behind_44 : decode mX4_behind.2.2.1 44 = .ok (.goto 9, 3) := by decide +kernel
theorem d_X4_behind_27 : decode mX4_behind.2.2.1 27 = .ok (.aload_n 0, 1) := by decide +kernel
theorem d_X4_behind_28 : decode mX4_behind.2.2.1 28 = .ok (.getfield 45, 3) := by decide +kernel
theorem d_X4_behind_31 : decode mX4_behind.2.2.1 31 = .ok (.ireturn, 1) := by decide +kernel
theorem d_X4_behind_9 : decode mX4_behind.2.2.1 9 = .ok (.aload_n 0, 1) := by decide +kernel
theorem d_X4_behind_10 : decode mX4_behind.2.2.1 10 = .ok (.getfield 27, 3) := by decide +kernel
theorem d_X4_behind_13 : decode mX4_behind.2.2.1 13 = .ok (.iload_n 1, 1) := by decide +kernel
theorem d_X4_behind_14 : decode mX4_behind.2.2.1 14 = .ok (.iaload, 1) := by decide +kernel
