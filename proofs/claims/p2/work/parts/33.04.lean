theorem d_X5_declaration_41 : decode mX5_declaration.2.2.1 41 = .ok (.ireturn, 1) := by decide +kernel
theorem d_X5_declaration_32 : decode mX5_declaration.2.2.1 32 = .ok (.aload_n 0, 1) := by decide +kernel
theorem d_X5_declaration_33 : decode mX5_declaration.2.2.1 33 = .ok (.invokevirtual 100, 3) := by decide +kernel
theorem sel_X5_heart : Cond.instanceMethod mX5_heart.2.1 ∈ tblG ∧ Cond.selects mX5_heart.2.1.cls mX5_heart.2.1 mX5_heart.2.1 ∈ tblG := ⟨tblG_in (inT4 (List.mem_of_getElem? (i := 28) rfl)) rfl, tblG_in (inP1 (q := (mX5_heart.2.1, 7)) (List.mem_of_getElem? (i := 10) rfl)) rfl⟩
theorem s_5_100 : e_siteV 5 100 mX5_heart 5 := ⟨tblG_in (inT4 (List.mem_of_getElem? (i := 26) rfl)) rfl, sel_X5_heart.1, sel_X5_heart.2, rfl⟩
theorem ok_X5_heart : e_m mX5_heart 0 := ⟨tblG_in (inT4 (List.mem_of_getElem? (i := 29) rfl)) rfl, plainFor_of_name (by decide), rfl, ini_5, by decide +kernel, by decide⟩
theorem d_X5_declaration_36 : decode mX5_declaration.2.2.1 36 = .ok (.ireturn, 1) := by decide +kernel
theorem ok_X5_declaration : e_m mX5_declaration 1 := ⟨tblG_in (inT4 (List.mem_of_getElem? (i := 25) rfl)) rfl, plainFor_of_name (by decide), rfl, ini_5, by decide +kernel, by decide⟩
theorem d_X5_declarations_63 : decode mX5_declarations.2.2.1 63 = .ok (.istore_n 1, 1) := by decide +kernel
theorem d_X5_declarations_64 : decode mX5_declarations.2.2.1 64 = .ok (.iinc 2 1, 3) := by decide +kernel
theorem d_X5_declarations_67 : decode mX5_declarations.2.2.1 67 = .ok (.goto (-63), 3) := by decide +kernel
theorem ok_X5_declarations : e_m mX5_declarations 0 := ⟨tblG_in (inT4 (List.mem_of_getElem? (i := 21) rfl)) rfl, plainFor_of_name (by decide), rfl, ini_5, by decide +kernel, by decide⟩
theorem d_X5_read_49 : decode mX5_read.2.2.1 49 = .ok (.ifCond .eq 13, 3) := by decide +kernel
theorem d_X5_read_62 : decode mX5_read.2.2.1 62 = .ok (.iconst 0, 1) := by decide +kernel
theorem d_X5_read_63 : decode mX5_read.2.2.1 63 = .ok (.ireturn, 1) := by decide +kernel
theorem d_X5_read_52 : decode mX5_read.2.2.1 52 = .ok (.aload_n 0, 1) := by decide +kernel
theorem d_X5_read_53 : decode mX5_read.2.2.1 53 = .ok (.iconst (-1), 1) := by decide +kernel
theorem d_X5_read_54 : decode mX5_read.2.2.1 54 = .ok (.invokevirtual 46, 3) := by decide +kernel
def mX5_orders : MD := (5, yX5_orders, cX5_orders, 6, some .int)
theorem sel_X5_orders : Cond.instanceMethod mX5_orders.2.1 ∈ tblG ∧ Cond.selects mX5_orders.2.1.cls mX5_orders.2.1 mX5_orders.2.1 ∈ tblG := ⟨tblG_in (inT4 (List.mem_of_getElem? (i := 96) rfl)) rfl, tblG_in (inP2 (q := (mX5_orders.2.1, 7)) (List.mem_of_getElem? (i := 7) rfl)) rfl⟩
theorem s_5_46 : e_siteV 5 46 mX5_orders 5 := ⟨tblG_in (inT4 (List.mem_of_getElem? (i := 94) rfl)) rfl, sel_X5_orders.1, sel_X5_orders.2, rfl⟩
theorem d_X5_orders_0 : decode mX5_orders.2.2.1 0 = .ok (.iconst (-1), 1) := by decide +kernel
theorem d_X5_orders_1 : decode mX5_orders.2.2.1 1 = .ok (.istore_n 2, 1) := by decide +kernel
theorem d_X5_orders_2 : decode mX5_orders.2.2.1 2 = .ok (.iconst (-1), 1) := by decide +kernel
theorem d_X5_orders_3 : decode mX5_orders.2.2.1 3 = .ok (.istore_n 3, 1) := by decide +kernel
theorem d_X5_orders_4 : decode mX5_orders.2.2.1 4 = .ok (.iconst 0, 1) := by decide +kernel
theorem d_X5_orders_5 : decode mX5_orders.2.2.1 5 = .ok (.istore 4, 2) := by decide +kernel
theorem d_X5_orders_7 : decode mX5_orders.2.2.1 7 = .ok (.iload 4, 2) := by decide +kernel
theorem d_X5_orders_9 : decode mX5_orders.2.2.1 9 = .ok (.bipush 60, 2) := by decide +kernel
theorem d_X5_orders_11 : decode mX5_orders.2.2.1 11 = .ok (.if_icmp .gt 100, 3) := by decide +kernel
theorem d_X5_orders_14 : decode mX5_orders.2.2.1 14 = .ok (.aload_n 0, 1) := by decide +kernel
theorem d_X5_orders_15 : decode mX5_orders.2.2.1 15 = .ok (.invokevirtual 154, 3) := by decide +kernel
theorem sel_X5_isOrder : Cond.instanceMethod mX5_isOrder.2.1 ∈ tblG ∧ Cond.selects mX5_isOrder.2.1.cls mX5_isOrder.2.1 mX5_isOrder.2.1 ∈ tblG := ⟨tblG_in (inT4 (List.mem_of_getElem? (i := 100) rfl)) rfl, tblG_in (inP2 (q := (mX5_isOrder.2.1, 7)) (List.mem_of_getElem? (i := 8) rfl)) rfl⟩
theorem s_5_154 : e_siteV 5 154 mX5_isOrder 5 := ⟨tblG_in (inT4 (List.mem_of_getElem? (i := 98) rfl)) rfl, sel_X5_isOrder.1, sel_X5_isOrder.2, rfl⟩
theorem ok_X5_isOrder : e_m mX5_isOrder 0 := ⟨tblG_in (inT4 (List.mem_of_getElem? (i := 101) rfl)) rfl, plainFor_of_name (by decide), rfl, ini_5, by decide +kernel, by decide⟩
theorem d_X5_orders_18 : decode mX5_orders.2.2.1 18 = .ok (.ifCond .eq 93, 3) := by decide +kernel
theorem d_X5_orders_111 : decode mX5_orders.2.2.1 111 = .ok (.iload_n 2, 1) := by decide +kernel
theorem d_X5_orders_112 : decode mX5_orders.2.2.1 112 = .ok (.ireturn, 1) := by decide +kernel
theorem d_X5_orders_21 : decode mX5_orders.2.2.1 21 = .ok (.aload_n 0, 1) := by decide +kernel
theorem d_X5_orders_22 : decode mX5_orders.2.2.1 22 = .ok (.getfield 32, 3) := by decide +kernel
theorem d_X5_orders_25 : decode mX5_orders.2.2.1 25 = .ok (.getfield 157, 3) := by decide +kernel
theorem f_5_157 : e_fld 5 157 4 0 13 0 false := ⟨RX4, TX4, 0, rfl, rfl, by decide, rfl, rfl, rfl, iX4, tblG_in (inT1 (List.mem_of_getElem? (i := 107) rfl)) rfl, tyX4_ok, nmX4⟩
theorem d_X5_orders_28 : decode mX5_orders.2.2.1 28 = .ok (.bipush 60, 2) := by decide +kernel
theorem d_X5_orders_30 : decode mX5_orders.2.2.1 30 = .ok (.if_icmp .lt 12, 3) := by decide +kernel
theorem d_X5_orders_42 : decode mX5_orders.2.2.1 42 = .ok (.aload_n 0, 1) := by decide +kernel
theorem d_X5_orders_43 : decode mX5_orders.2.2.1 43 = .ok (.getfield 32, 3) := by decide +kernel
theorem d_X5_orders_46 : decode mX5_orders.2.2.1 46 = .ok (.aload_n 0, 1) := by decide +kernel
theorem d_X5_orders_47 : decode mX5_orders.2.2.1 47 = .ok (.getfield 18, 3) := by decide +kernel
theorem d_X5_orders_50 : decode mX5_orders.2.2.1 50 = .ok (.getfield 68, 3) := by decide +kernel
theorem d_X5_orders_53 : decode mX5_orders.2.2.1 53 = .ok (.aload_n 0, 1) := by decide +kernel
theorem d_X5_orders_54 : decode mX5_orders.2.2.1 54 = .ok (.getfield 36, 3) := by decide +kernel
theorem d_X5_orders_57 : decode mX5_orders.2.2.1 57 = .ok (.iaload, 1) := by decide +kernel
theorem d_X5_orders_58 : decode mX5_orders.2.2.1 58 = .ok (.iload_n 1, 1) := by decide +kernel
theorem d_X5_orders_59 : decode mX5_orders.2.2.1 59 = .ok (.invokevirtual 160, 3) := by decide +kernel
theorem sel_X4_open : Cond.instanceMethod mX4_open.2.1 ∈ tblG ∧ Cond.selects mX4_open.2.1.cls mX4_open.2.1 mX4_open.2.1 ∈ tblG := ⟨tblG_in (inT4 (List.mem_of_getElem? (i := 103) rfl)) rfl, tblG_in (inT4 (List.mem_of_getElem? (i := 104) rfl)) rfl⟩
theorem s_5_160 : e_siteV 5 160 mX4_open 4 := ⟨tblG_in (inT4 (List.mem_of_getElem? (i := 102) rfl)) rfl, sel_X4_open.1, sel_X4_open.2, rfl⟩
theorem ok_X4_open : e_m mX4_open 2 := ⟨tblG_in (inT4 (List.mem_of_getElem? (i := 105) rfl)) rfl, plainFor_of_name (by decide), rfl, ini_4, by decide +kernel, by decide⟩
theorem d_X5_orders_62 : decode mX5_orders.2.2.1 62 = .ok (.istore 5, 2) := by decide +kernel
theorem d_X5_orders_64 : decode mX5_orders.2.2.1 64 = .ok (.iload_n 3, 1) := by decide +kernel
theorem d_X5_orders_65 : decode mX5_orders.2.2.1 65 = .ok (.ifCond .ge 9, 3) := by decide +kernel
theorem d_X5_orders_68 : decode mX5_orders.2.2.1 68 = .ok (.iload 5, 2) := by decide +kernel
theorem d_X5_orders_70 : decode mX5_orders.2.2.1 70 = .ok (.istore_n 2, 1) := by decide +kernel
theorem d_X5_orders_71 : decode mX5_orders.2.2.1 71 = .ok (.goto 14, 3) := by decide +kernel
theorem d_X5_orders_33 : decode mX5_orders.2.2.1 33 = .ok (.aload_n 0, 1) := by decide +kernel
theorem d_X5_orders_34 : decode mX5_orders.2.2.1 34 = .ok (.iconst 5, 1) := by decide +kernel
theorem d_X5_orders_35 : decode mX5_orders.2.2.1 35 = .ok (.invokevirtual 56, 3) := by decide +kernel
theorem d_X5_orders_38 : decode mX5_orders.2.2.1 38 = .ok (.pop, 1) := by decide +kernel
theorem d_X5_orders_39 : decode mX5_orders.2.2.1 39 = .ok (.bipush (-2), 2) := by decide +kernel
theorem d_X5_orders_41 : decode mX5_orders.2.2.1 41 = .ok (.ireturn, 1) := by decide +kernel
theorem d_X5_orders_85 : decode mX5_orders.2.2.1 85 = .ok (.iload 5, 2) := by decide +kernel
theorem d_X5_orders_87 : decode mX5_orders.2.2.1 87 = .ok (.istore_n 3, 1) := by decide +kernel
theorem d_X5_orders_88 : decode mX5_orders.2.2.1 88 = .ok (.aload_n 0, 1) := by decide +kernel
theorem d_X5_orders_89 : decode mX5_orders.2.2.1 89 = .ok (.invokevirtual 74, 3) := by decide +kernel
theorem d_X5_orders_92 : decode mX5_orders.2.2.1 92 = .ok (.pop, 1) := by decide +kernel
theorem d_X5_orders_93 : decode mX5_orders.2.2.1 93 = .ok (.aload_n 0, 1) := by decide +kernel
theorem d_X5_orders_94 : decode mX5_orders.2.2.1 94 = .ok (.iload 5, 2) := by decide +kernel
theorem d_X5_orders_96 : decode mX5_orders.2.2.1 96 = .ok (.invokevirtual 166, 3) := by decide +kernel
def mX5_order : MD := (5, yX5_order, cX5_order, 2, some .boolean)
theorem sel_X5_order : Cond.instanceMethod mX5_order.2.1 ∈ tblG ∧ Cond.selects mX5_order.2.1.cls mX5_order.2.1 mX5_order.2.1 ∈ tblG := ⟨tblG_in (inT4 (List.mem_of_getElem? (i := 108) rfl)) rfl, tblG_in (inP2 (q := (mX5_order.2.1, 7)) (List.mem_of_getElem? (i := 9) rfl)) rfl⟩
theorem s_5_166 : e_siteV 5 166 mX5_order 5 := ⟨tblG_in (inT4 (List.mem_of_getElem? (i := 106) rfl)) rfl, sel_X5_order.1, sel_X5_order.2, rfl⟩
theorem d_X5_order_0 : decode mX5_order.2.2.1 0 = .ok (.aload_n 0, 1) := by decide +kernel
theorem d_X5_order_1 : decode mX5_order.2.2.1 1 = .ok (.getfield 32, 3) := by decide +kernel
theorem d_X5_order_4 : decode mX5_order.2.2.1 4 = .ok (.getfield 169, 3) := by decide +kernel
theorem f_5_169 : e_fld 5 169 4 1 13 2 true := ⟨RX4, TX4, 1, rfl, rfl, by decide, rfl, rfl, rfl, iX4, tblG_in (inT1 (List.mem_of_getElem? (i := 110) rfl)) rfl, tyX4_ok, nmX4⟩
theorem d_X5_order_7 : decode mX5_order.2.2.1 7 = .ok (.iload_n 1, 1) := by decide +kernel
theorem d_X5_order_8 : decode mX5_order.2.2.1 8 = .ok (.iaload, 1) := by decide +kernel
theorem d_X5_order_9 : decode mX5_order.2.2.1 9 = .ok (.tableswitch 189 5 11 #[43, 83, 114, 114, 138, 138, 160], 43) := by decide +kernel
theorem d_X5_order_198 : decode mX5_order.2.2.1 198 = .ok (.aload_n 0, 1) := by decide +kernel
theorem d_X5_order_199 : decode mX5_order.2.2.1 199 = .ok (.invokevirtual 177, 3) := by decide +kernel
def mX5_test : MD := (5, yX5_test, cX5_test, 3, some .boolean)
theorem sel_X5_test : Cond.instanceMethod mX5_test.2.1 ∈ tblG ∧ Cond.selects mX5_test.2.1.cls mX5_test.2.1 mX5_test.2.1 ∈ tblG := ⟨tblG_in (inT4 (List.mem_of_getElem? (i := 157) rfl)) rfl, tblG_in (inP3 (q := (mX5_test.2.1, 7)) (List.mem_of_getElem? (i := 3) rfl)) rfl⟩
theorem s_5_177 : e_siteV 5 177 mX5_test 5 := ⟨tblG_in (inT4 (List.mem_of_getElem? (i := 155) rfl)) rfl, sel_X5_test.1, sel_X5_test.2, rfl⟩
theorem d_X5_test_0 : decode mX5_test.2.2.1 0 = .ok (.aload_n 0, 1) := by decide +kernel
theorem d_X5_test_1 : decode mX5_test.2.2.1 1 = .ok (.invokevirtual 212, 3) := by decide +kernel
def mX5_both : MD := (5, yX5_both, cX5_both, 3, some .boolean)
theorem sel_X5_both : Cond.instanceMethod mX5_both.2.1 ∈ tblG ∧ Cond.selects mX5_both.2.1.cls mX5_both.2.1 mX5_both.2.1 ∈ tblG := ⟨tblG_in (inT4 (List.mem_of_getElem? (i := 161) rfl)) rfl, tblG_in (inP3 (q := (mX5_both.2.1, 7)) (List.mem_of_getElem? (i := 4) rfl)) rfl⟩
theorem s_5_212 : e_siteV 5 212 mX5_both 5 := ⟨tblG_in (inT4 (List.mem_of_getElem? (i := 159) rfl)) rfl, sel_X5_both.1, sel_X5_both.2, rfl⟩
theorem d_X5_both_0 : decode mX5_both.2.2.1 0 = .ok (.aload_n 0, 1) := by decide +kernel
theorem d_X5_both_1 : decode mX5_both.2.2.1 1 = .ok (.invokevirtual 218, 3) := by decide +kernel
def mX5_fact : MD := (5, yX5_fact, cX5_fact, 3, some .boolean)
theorem sel_X5_fact : Cond.instanceMethod mX5_fact.2.1 ∈ tblG ∧ Cond.selects mX5_fact.2.1.cls mX5_fact.2.1 mX5_fact.2.1 ∈ tblG := ⟨tblG_in (inT4 (List.mem_of_getElem? (i := 165) rfl)) rfl, tblG_in (inP3 (q := (mX5_fact.2.1, 7)) (List.mem_of_getElem? (i := 5) rfl)) rfl⟩
theorem s_5_218 : e_siteV 5 218 mX5_fact 5 := ⟨tblG_in (inT4 (List.mem_of_getElem? (i := 163) rfl)) rfl, sel_X5_fact.1, sel_X5_fact.2, rfl⟩
theorem d_X5_fact_0 : decode mX5_fact.2.2.1 0 = .ok (.iconst 0, 1) := by decide +kernel
theorem d_X5_fact_1 : decode mX5_fact.2.2.1 1 = .ok (.istore_n 1, 1) := by decide +kernel
theorem d_X5_fact_2 : decode mX5_fact.2.2.1 2 = .ok (.iconst 0, 1) := by decide +kernel
theorem d_X5_fact_3 : decode mX5_fact.2.2.1 3 = .ok (.istore_n 2, 1) := by decide +kernel
theorem d_X5_fact_4 : decode mX5_fact.2.2.1 4 = .ok (.iload_n 2, 1) := by decide +kernel
theorem d_X5_fact_5 : decode mX5_fact.2.2.1 5 = .ok (.sipush 900, 3) := by decide +kernel
theorem d_X5_fact_8 : decode mX5_fact.2.2.1 8 = .ok (.if_icmp .ge 33, 3) := by decide +kernel
theorem d_X5_fact_11 : decode mX5_fact.2.2.1 11 = .ok (.aload_n 0, 1) := by decide +kernel
theorem d_X5_fact_12 : decode mX5_fact.2.2.1 12 = .ok (.bipush 21, 2) := by decide +kernel
theorem d_X5_fact_14 : decode mX5_fact.2.2.1 14 = .ok (.invokevirtual 71, 3) := by decide +kernel
theorem d_X5_fact_17 : decode mX5_fact.2.2.1 17 = .ok (.ifCond .eq 24, 3) := by decide +kernel
theorem d_X5_fact_20 : decode mX5_fact.2.2.1 20 = .ok (.aload_n 0, 1) := by decide +kernel
theorem d_X5_fact_21 : decode mX5_fact.2.2.1 21 = .ok (.invokevirtual 74, 3) := by decide +kernel
theorem d_X5_fact_24 : decode mX5_fact.2.2.1 24 = .ok (.pop, 1) := by decide +kernel
theorem d_X5_fact_25 : decode mX5_fact.2.2.1 25 = .ok (.iload_n 1, 1) := by decide +kernel
theorem d_X5_fact_26 : decode mX5_fact.2.2.1 26 = .ok (.ifCond .ne 7, 3) := by decide +kernel
theorem d_X5_fact_29 : decode mX5_fact.2.2.1 29 = .ok (.iconst 1, 1) := by decide +kernel
theorem d_X5_fact_30 : decode mX5_fact.2.2.1 30 = .ok (.goto 4, 3) := by decide +kernel
theorem d_X5_fact_41 : decode mX5_fact.2.2.1 41 = .ok (.aload_n 0, 1) := by decide +kernel
theorem d_X5_fact_42 : decode mX5_fact.2.2.1 42 = .ok (.invokevirtual 221, 3) := by decide +kernel
def mX5_plainFact : MD := (5, yX5_plainFact, cX5_plainFact, 3, some .boolean)
theorem sel_X5_plainFact : Cond.instanceMethod mX5_plainFact.2.1 ∈ tblG ∧ Cond.selects mX5_plainFact.2.1.cls mX5_plainFact.2.1 mX5_plainFact.2.1 ∈ tblG := ⟨tblG_in (inT4 (List.mem_of_getElem? (i := 169) rfl)) rfl, tblG_in (inP3 (q := (mX5_plainFact.2.1, 7)) (List.mem_of_getElem? (i := 6) rfl)) rfl⟩
theorem s_5_221 : e_siteV 5 221 mX5_plainFact 5 := ⟨tblG_in (inT4 (List.mem_of_getElem? (i := 167) rfl)) rfl, sel_X5_plainFact.1, sel_X5_plainFact.2, rfl⟩
theorem d_X5_plainFact_0 : decode mX5_plainFact.2.2.1 0 = .ok (.aload_n 0, 1) := by decide +kernel
theorem d_X5_plainFact_1 : decode mX5_plainFact.2.2.1 1 = .ok (.bipush 91, 2) := by decide +kernel
theorem d_X5_plainFact_3 : decode mX5_plainFact.2.2.1 3 = .ok (.invokevirtual 77, 3) := by decide +kernel
theorem d_X5_plainFact_6 : decode mX5_plainFact.2.2.1 6 = .ok (.ifCond .eq 34, 3) := by decide +kernel
theorem d_X5_plainFact_40 : decode mX5_plainFact.2.2.1 40 = .ok (.aload_n 0, 1) := by decide +kernel
theorem d_X5_plainFact_41 : decode mX5_plainFact.2.2.1 41 = .ok (.bipush 22, 2) := by decide +kernel
theorem d_X5_plainFact_43 : decode mX5_plainFact.2.2.1 43 = .ok (.invokevirtual 71, 3) := by decide +kernel
theorem d_X5_plainFact_46 : decode mX5_plainFact.2.2.1 46 = .ok (.ifCond .eq 17, 3) := by decide +kernel
theorem d_X5_plainFact_63 : decode mX5_plainFact.2.2.1 63 = .ok (.aload_n 0, 1) := by decide +kernel
theorem d_X5_plainFact_64 : decode mX5_plainFact.2.2.1 64 = .ok (.bipush 23, 2) := by decide +kernel
theorem d_X5_plainFact_66 : decode mX5_plainFact.2.2.1 66 = .ok (.invokevirtual 71, 3) := by decide +kernel
theorem d_X5_plainFact_69 : decode mX5_plainFact.2.2.1 69 = .ok (.ifCond .eq 37, 3) := by decide +kernel
theorem d_X5_plainFact_106 : decode mX5_plainFact.2.2.1 106 = .ok (.aload_n 0, 1) := by decide +kernel
theorem d_X5_plainFact_107 : decode mX5_plainFact.2.2.1 107 = .ok (.invokevirtual 174, 3) := by decide +kernel
def mX5_sum : MD := (5, yX5_sum, cX5_sum, 4, some .boolean)
theorem sel_X5_sum : Cond.instanceMethod mX5_sum.2.1 ∈ tblG ∧ Cond.selects mX5_sum.2.1.cls mX5_sum.2.1 mX5_sum.2.1 ∈ tblG := ⟨tblG_in (inT4 (List.mem_of_getElem? (i := 125) rfl)) rfl, tblG_in (inP2 (q := (mX5_sum.2.1, 7)) (List.mem_of_getElem? (i := 12) rfl)) rfl⟩
theorem s_5_174 : e_siteV 5 174 mX5_sum 5 := ⟨tblG_in (inT4 (List.mem_of_getElem? (i := 123) rfl)) rfl, sel_X5_sum.1, sel_X5_sum.2, rfl⟩
theorem d_X5_sum_0 : decode mX5_sum.2.2.1 0 = .ok (.aload_n 0, 1) := by decide +kernel
theorem d_X5_sum_1 : decode mX5_sum.2.2.1 1 = .ok (.invokevirtual 224, 3) := by decide +kernel
def mX5_product : MD := (5, yX5_product, cX5_product, 4, some .boolean)
theorem sel_X5_product : Cond.instanceMethod mX5_product.2.1 ∈ tblG ∧ Cond.selects mX5_product.2.1.cls mX5_product.2.1 mX5_product.2.1 ∈ tblG := ⟨tblG_in (inT4 (List.mem_of_getElem? (i := 129) rfl)) rfl, tblG_in (inP2 (q := (mX5_product.2.1, 7)) (List.mem_of_getElem? (i := 13) rfl)) rfl⟩
theorem s_5_224 : e_siteV 5 224 mX5_product 5 := ⟨tblG_in (inT4 (List.mem_of_getElem? (i := 127) rfl)) rfl, sel_X5_product.1, sel_X5_product.2, rfl⟩
theorem d_X5_product_0 : decode mX5_product.2.2.1 0 = .ok (.aload_n 0, 1) := by decide +kernel
theorem d_X5_product_1 : decode mX5_product.2.2.1 1 = .ok (.invokevirtual 227, 3) := by decide +kernel
def mX5_piece : MD := (5, yX5_piece, cX5_piece, 2, some .boolean)
theorem sel_X5_piece : Cond.instanceMethod mX5_piece.2.1 ∈ tblG ∧ Cond.selects mX5_piece.2.1.cls mX5_piece.2.1 mX5_piece.2.1 ∈ tblG := ⟨tblG_in (inT4 (List.mem_of_getElem? (i := 133) rfl)) rfl, tblG_in (inP2 (q := (mX5_piece.2.1, 7)) (List.mem_of_getElem? (i := 14) rfl)) rfl⟩
theorem s_5_227 : e_siteV 5 227 mX5_piece 5 := ⟨tblG_in (inT4 (List.mem_of_getElem? (i := 131) rfl)) rfl, sel_X5_piece.1, sel_X5_piece.2, rfl⟩
theorem d_X5_piece_0 : decode mX5_piece.2.2.1 0 = .ok (.aload_n 0, 1) := by decide +kernel
theorem d_X5_piece_1 : decode mX5_piece.2.2.1 1 = .ok (.getfield 18, 3) := by decide +kernel
theorem d_X5_piece_4 : decode mX5_piece.2.2.1 4 = .ok (.getfield 50, 3) := by decide +kernel
theorem d_X5_piece_7 : decode mX5_piece.2.2.1 7 = .ok (.aload_n 0, 1) := by decide +kernel
theorem d_X5_piece_8 : decode mX5_piece.2.2.1 8 = .ok (.getfield 36, 3) := by decide +kernel
theorem d_X5_piece_11 : decode mX5_piece.2.2.1 11 = .ok (.iaload, 1) := by decide +kernel
theorem d_X5_piece_12 : decode mX5_piece.2.2.1 12 = .ok (.iconst 4, 1) := by decide +kernel
theorem d_X5_piece_13 : decode mX5_piece.2.2.1 13 = .ok (.if_icmp .ne 31, 3) := by decide +kernel
theorem d_X5_piece_44 : decode mX5_piece.2.2.1 44 = .ok (.aload_n 0, 1) := by decide +kernel
theorem d_X5_piece_45 : decode mX5_piece.2.2.1 45 = .ok (.getfield 18, 3) := by decide +kernel
theorem d_X5_piece_48 : decode mX5_piece.2.2.1 48 = .ok (.getfield 50, 3) := by decide +kernel
theorem d_X5_piece_51 : decode mX5_piece.2.2.1 51 = .ok (.aload_n 0, 1) := by decide +kernel
theorem d_X5_piece_52 : decode mX5_piece.2.2.1 52 = .ok (.getfield 36, 3) := by decide +kernel
theorem d_X5_piece_55 : decode mX5_piece.2.2.1 55 = .ok (.iaload, 1) := by decide +kernel
theorem d_X5_piece_56 : decode mX5_piece.2.2.1 56 = .ok (.iconst 3, 1) := by decide +kernel
theorem d_X5_piece_57 : decode mX5_piece.2.2.1 57 = .ok (.if_icmp .ne 8, 3) := by decide +kernel
theorem d_X5_piece_65 : decode mX5_piece.2.2.1 65 = .ok (.aload_n 0, 1) := by decide +kernel
theorem d_X5_piece_66 : decode mX5_piece.2.2.1 66 = .ok (.bipush 40, 2) := by decide +kernel
theorem d_X5_piece_68 : decode mX5_piece.2.2.1 68 = .ok (.invokevirtual 77, 3) := by decide +kernel
theorem d_X5_piece_71 : decode mX5_piece.2.2.1 71 = .ok (.ifCond .eq 34, 3) := by decide +kernel
theorem d_X5_piece_105 : decode mX5_piece.2.2.1 105 = .ok (.aload_n 0, 1) := by decide +kernel
theorem d_X5_piece_106 : decode mX5_piece.2.2.1 106 = .ok (.bipush 24, 2) := by decide +kernel
theorem d_X5_piece_108 : decode mX5_piece.2.2.1 108 = .ok (.invokevirtual 71, 3) := by decide +kernel
theorem d_X5_piece_111 : decode mX5_piece.2.2.1 111 = .ok (.ifCond .eq 17, 3) := by decide +kernel
theorem d_X5_piece_128 : decode mX5_piece.2.2.1 128 = .ok (.aload_n 0, 1) := by decide +kernel
theorem d_X5_piece_129 : decode mX5_piece.2.2.1 129 = .ok (.bipush 25, 2) := by decide +kernel
theorem d_X5_piece_131 : decode mX5_piece.2.2.1 131 = .ok (.invokevirtual 71, 3) := by decide +kernel
theorem d_X5_piece_134 : decode mX5_piece.2.2.1 134 = .ok (.ifCond .ne 12, 3) := by decide +kernel
theorem d_X5_piece_137 : decode mX5_piece.2.2.1 137 = .ok (.aload_n 0, 1) := by decide +kernel
theorem d_X5_piece_138 : decode mX5_piece.2.2.1 138 = .ok (.bipush 26, 2) := by decide +kernel
theorem d_X5_piece_140 : decode mX5_piece.2.2.1 140 = .ok (.invokevirtual 71, 3) := by decide +kernel
theorem d_X5_piece_143 : decode mX5_piece.2.2.1 143 = .ok (.ifCond .eq 24, 3) := by decide +kernel
theorem d_X5_piece_167 : decode mX5_piece.2.2.1 167 = .ok (.aload_n 0, 1) := by decide +kernel
theorem d_X5_piece_168 : decode mX5_piece.2.2.1 168 = .ok (.iconst 1, 1) := by decide +kernel
theorem d_X5_piece_169 : decode mX5_piece.2.2.1 169 = .ok (.invokevirtual 56, 3) := by decide +kernel
theorem d_X5_piece_172 : decode mX5_piece.2.2.1 172 = .ok (.ireturn, 1) := by decide +kernel
theorem d_X5_piece_114 : decode mX5_piece.2.2.1 114 = .ok (.aload_n 0, 1) := by decide +kernel
theorem d_X5_piece_115 : decode mX5_piece.2.2.1 115 = .ok (.getfield 32, 3) := by decide +kernel
theorem d_X5_piece_118 : decode mX5_piece.2.2.1 118 = .ok (.iconst 3, 1) := by decide +kernel
theorem d_X5_piece_119 : decode mX5_piece.2.2.1 119 = .ok (.iconst 0, 1) := by decide +kernel
theorem d_X5_piece_120 : decode mX5_piece.2.2.1 120 = .ok (.invokevirtual 215, 3) := by decide +kernel
theorem d_X5_piece_123 : decode mX5_piece.2.2.1 123 = .ok (.aload_n 0, 1) := by decide +kernel
theorem d_X5_piece_124 : decode mX5_piece.2.2.1 124 = .ok (.invokevirtual 74, 3) := by decide +kernel
theorem d_X5_piece_127 : decode mX5_piece.2.2.1 127 = .ok (.ireturn, 1) := by decide +kernel
theorem d_X5_piece_74 : decode mX5_piece.2.2.1 74 = .ok (.aload_n 0, 1) := by decide +kernel
theorem d_X5_piece_75 : decode mX5_piece.2.2.1 75 = .ok (.bipush 40, 2) := by decide +kernel
theorem d_X5_piece_77 : decode mX5_piece.2.2.1 77 = .ok (.invokevirtual 206, 3) := by decide +kernel
theorem d_X5_piece_80 : decode mX5_piece.2.2.1 80 = .ok (.ifCond .eq 23, 3) := by decide +kernel
theorem d_X5_piece_103 : decode mX5_piece.2.2.1 103 = .ok (.iconst 0, 1) := by decide +kernel
theorem d_X5_piece_104 : decode mX5_piece.2.2.1 104 = .ok (.ireturn, 1) := by decide +kernel
theorem d_X5_piece_83 : decode mX5_piece.2.2.1 83 = .ok (.aload_n 0, 1) := by decide +kernel
theorem d_X5_piece_84 : decode mX5_piece.2.2.1 84 = .ok (.invokevirtual 174, 3) := by decide +kernel
theorem d_X5_piece_60 : decode mX5_piece.2.2.1 60 = .ok (.aload_n 0, 1) := by decide +kernel
theorem d_X5_piece_61 : decode mX5_piece.2.2.1 61 = .ok (.invokevirtual 230, 3) := by decide +kernel
def mX5_namedPiece : MD := (5, yX5_namedPiece, cX5_namedPiece, 3, some .boolean)
theorem sel_X5_namedPiece : Cond.instanceMethod mX5_namedPiece.2.1 ∈ tblG ∧ Cond.selects mX5_namedPiece.2.1.cls mX5_namedPiece.2.1 mX5_namedPiece.2.1 ∈ tblG := ⟨tblG_in (inT4 (List.mem_of_getElem? (i := 141) rfl)) rfl, tblG_in (inP2 (q := (mX5_namedPiece.2.1, 7)) (List.mem_of_getElem? (i := 15) rfl)) rfl⟩
theorem s_5_230 : e_siteV 5 230 mX5_namedPiece 5 := ⟨tblG_in (inT4 (List.mem_of_getElem? (i := 139) rfl)) rfl, sel_X5_namedPiece.1, sel_X5_namedPiece.2, rfl⟩
theorem d_X5_namedPiece_0 : decode mX5_namedPiece.2.2.1 0 = .ok (.aload_n 0, 1) := by decide +kernel
theorem d_X5_namedPiece_1 : decode mX5_namedPiece.2.2.1 1 = .ok (.getfield 22, 3) := by decide +kernel
theorem d_X5_namedPiece_4 : decode mX5_namedPiece.2.2.1 4 = .ok (.aload_n 0, 1) := by decide +kernel
theorem d_X5_namedPiece_5 : decode mX5_namedPiece.2.2.1 5 = .ok (.getfield 18, 3) := by decide +kernel
theorem d_X5_namedPiece_8 : decode mX5_namedPiece.2.2.1 8 = .ok (.getfield 68, 3) := by decide +kernel
theorem d_X5_namedPiece_11 : decode mX5_namedPiece.2.2.1 11 = .ok (.aload_n 0, 1) := by decide +kernel
theorem d_X5_namedPiece_12 : decode mX5_namedPiece.2.2.1 12 = .ok (.getfield 36, 3) := by decide +kernel
theorem d_X5_namedPiece_15 : decode mX5_namedPiece.2.2.1 15 = .ok (.iaload, 1) := by decide +kernel
theorem d_X5_namedPiece_16 : decode mX5_namedPiece.2.2.1 16 = .ok (.invokevirtual 91, 3) := by decide +kernel
theorem d_X5_namedPiece_19 : decode mX5_namedPiece.2.2.1 19 = .ok (.istore_n 1, 1) := by decide +kernel
theorem d_X5_namedPiece_20 : decode mX5_namedPiece.2.2.1 20 = .ok (.iload_n 1, 1) := by decide +kernel
theorem d_X5_namedPiece_21 : decode mX5_namedPiece.2.2.1 21 = .ok (.ifCond .lt 37, 3) := by decide +kernel
theorem d_X5_namedPiece_24 : decode mX5_namedPiece.2.2.1 24 = .ok (.aload_n 0, 1) := by decide +kernel
theorem d_X5_namedPiece_25 : decode mX5_namedPiece.2.2.1 25 = .ok (.getfield 22, 3) := by decide +kernel
theorem d_X5_namedPiece_28 : decode mX5_namedPiece.2.2.1 28 = .ok (.iconst 1, 1) := by decide +kernel
theorem d_X5_namedPiece_29 : decode mX5_namedPiece.2.2.1 29 = .ok (.iload_n 1, 1) := by decide +kernel
theorem d_X5_namedPiece_30 : decode mX5_namedPiece.2.2.1 30 = .ok (.invokevirtual 94, 3) := by decide +kernel
def mX3_which : MD := (3, yX3_which, cX3_which, 4, some .int)
theorem sel_X3_which : Cond.instanceMethod mX3_which.2.1 ∈ tblG ∧ Cond.selects mX3_which.2.1.cls mX3_which.2.1 mX3_which.2.1 ∈ tblG := ⟨tblG_in (inT4 (List.mem_of_getElem? (i := 119) rfl)) rfl, tblG_in (inT4 (List.mem_of_getElem? (i := 120) rfl)) rfl⟩
theorem s_5_94 : e_siteV 5 94 mX3_which 3 := ⟨tblG_in (inT4 (List.mem_of_getElem? (i := 118) rfl)) rfl, sel_X3_which.1, sel_X3_which.2, rfl⟩
theorem d_X3_which_0 : decode mX3_which.2.2.1 0 = .ok (.iload_n 2, 1) := by decide +kernel
