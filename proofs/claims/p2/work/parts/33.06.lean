theorem d_X5_order_147 : decode mX5_order.2.2.1 147 = .ok (.aload_n 0, 1) := by decide +kernel
theorem d_X5_order_148 : decode mX5_order.2.2.1 148 = .ok (.invokevirtual 174, 3) := by decide +kernel
theorem d_X5_order_151 : decode mX5_order.2.2.1 151 = .ok (.ifCond .eq 16, 3) := by decide +kernel
theorem d_X5_order_167 : decode mX5_order.2.2.1 167 = .ok (.iconst 0, 1) := by decide +kernel
theorem d_X5_order_168 : decode mX5_order.2.2.1 168 = .ok (.ireturn, 1) := by decide +kernel
theorem d_X5_order_154 : decode mX5_order.2.2.1 154 = .ok (.aload_n 0, 1) := by decide +kernel
theorem d_X5_order_155 : decode mX5_order.2.2.1 155 = .ok (.bipush 59, 2) := by decide +kernel
theorem d_X5_order_157 : decode mX5_order.2.2.1 157 = .ok (.invokevirtual 81, 3) := by decide +kernel
theorem d_X5_order_160 : decode mX5_order.2.2.1 160 = .ok (.ifCond .eq 7, 3) := by decide +kernel
theorem d_X5_order_163 : decode mX5_order.2.2.1 163 = .ok (.iconst 1, 1) := by decide +kernel
theorem d_X5_order_164 : decode mX5_order.2.2.1 164 = .ok (.goto 4, 3) := by decide +kernel
theorem d_X5_order_123 : decode mX5_order.2.2.1 123 = .ok (.aload_n 0, 1) := by decide +kernel
theorem d_X5_order_124 : decode mX5_order.2.2.1 124 = .ok (.iload_n 1, 1) := by decide +kernel
theorem d_X5_order_125 : decode mX5_order.2.2.1 125 = .ok (.iconst 0, 1) := by decide +kernel
theorem d_X5_order_126 : decode mX5_order.2.2.1 126 = .ok (.invokevirtual 170, 3) := by decide +kernel
def mX5_about : MD := (5, yX5_about, cX5_about, 4, some .boolean)
theorem sel_X5_about : Cond.instanceMethod mX5_about.2.1 ∈ tblG ∧ Cond.selects mX5_about.2.1.cls mX5_about.2.1 mX5_about.2.1 ∈ tblG := ⟨tblG_in (inT4 (List.mem_of_getElem? (i := 112) rfl)) rfl, tblG_in (inP2 (q := (mX5_about.2.1, 7)) (List.mem_of_getElem? (i := 10) rfl)) rfl⟩
theorem s_5_170 : e_siteV 5 170 mX5_about 5 := ⟨tblG_in (inT4 (List.mem_of_getElem? (i := 110) rfl)) rfl, sel_X5_about.1, sel_X5_about.2, rfl⟩
theorem d_X5_about_0 : decode mX5_about.2.2.1 0 = .ok (.aload_n 0, 1) := by decide +kernel
theorem d_X5_about_1 : decode mX5_about.2.2.1 1 = .ok (.iload_n 2, 1) := by decide +kernel
theorem d_X5_about_2 : decode mX5_about.2.2.1 2 = .ok (.invokevirtual 186, 3) := by decide +kernel
theorem d_X5_about_5 : decode mX5_about.2.2.1 5 = .ok (.istore_n 3, 1) := by decide +kernel
theorem d_X5_about_6 : decode mX5_about.2.2.1 6 = .ok (.aload_n 0, 1) := by decide +kernel
theorem d_X5_about_7 : decode mX5_about.2.2.1 7 = .ok (.getfield 32, 3) := by decide +kernel
theorem d_X5_about_10 : decode mX5_about.2.2.1 10 = .ok (.getfield 189, 3) := by decide +kernel
theorem f_5_189 : e_fld 5 189 4 2 13 2 true := ⟨RX4, TX4, 2, rfl, rfl, by decide, rfl, rfl, rfl, iX4, tblG_in (inT1 (List.mem_of_getElem? (i := 113) rfl)) rfl, tyX4_ok, nmX4⟩
theorem d_X5_about_13 : decode mX5_about.2.2.1 13 = .ok (.iload_n 1, 1) := by decide +kernel
theorem d_X5_about_14 : decode mX5_about.2.2.1 14 = .ok (.iload_n 3, 1) := by decide +kernel
theorem d_X5_about_15 : decode mX5_about.2.2.1 15 = .ok (.iconst 0, 1) := by decide +kernel
theorem d_X5_about_16 : decode mX5_about.2.2.1 16 = .ok (.invokestatic 192, 3) := by decide +kernel
theorem d_X5_about_19 : decode mX5_about.2.2.1 19 = .ok (.iastore, 1) := by decide +kernel
theorem d_X5_about_20 : decode mX5_about.2.2.1 20 = .ok (.iload_n 3, 1) := by decide +kernel
theorem d_X5_about_21 : decode mX5_about.2.2.1 21 = .ok (.ifCond .lt 7, 3) := by decide +kernel
theorem d_X5_about_28 : decode mX5_about.2.2.1 28 = .ok (.iconst 0, 1) := by decide +kernel
theorem d_X5_about_29 : decode mX5_about.2.2.1 29 = .ok (.ireturn, 1) := by decide +kernel
theorem d_X5_about_24 : decode mX5_about.2.2.1 24 = .ok (.iconst 1, 1) := by decide +kernel
theorem d_X5_about_25 : decode mX5_about.2.2.1 25 = .ok (.goto 4, 3) := by decide +kernel
theorem ok_X5_about : e_m mX5_about 2 := ⟨tblG_in (inT4 (List.mem_of_getElem? (i := 113) rfl)) rfl, plainFor_of_name (by decide), rfl, ini_5, by decide +kernel, by decide⟩
theorem d_X5_order_129 : decode mX5_order.2.2.1 129 = .ok (.ifCond .eq 16, 3) := by decide +kernel
theorem d_X5_order_145 : decode mX5_order.2.2.1 145 = .ok (.iconst 0, 1) := by decide +kernel
theorem d_X5_order_146 : decode mX5_order.2.2.1 146 = .ok (.ireturn, 1) := by decide +kernel
theorem d_X5_order_132 : decode mX5_order.2.2.1 132 = .ok (.aload_n 0, 1) := by decide +kernel
theorem d_X5_order_133 : decode mX5_order.2.2.1 133 = .ok (.bipush 59, 2) := by decide +kernel
theorem d_X5_order_135 : decode mX5_order.2.2.1 135 = .ok (.invokevirtual 81, 3) := by decide +kernel
theorem d_X5_order_138 : decode mX5_order.2.2.1 138 = .ok (.ifCond .eq 7, 3) := by decide +kernel
theorem d_X5_order_141 : decode mX5_order.2.2.1 141 = .ok (.iconst 1, 1) := by decide +kernel
theorem d_X5_order_142 : decode mX5_order.2.2.1 142 = .ok (.goto 4, 3) := by decide +kernel
theorem d_X5_order_92 : decode mX5_order.2.2.1 92 = .ok (.aload_n 0, 1) := by decide +kernel
theorem d_X5_order_93 : decode mX5_order.2.2.1 93 = .ok (.iload_n 1, 1) := by decide +kernel
theorem d_X5_order_94 : decode mX5_order.2.2.1 94 = .ok (.iconst 0, 1) := by decide +kernel
theorem d_X5_order_95 : decode mX5_order.2.2.1 95 = .ok (.invokevirtual 170, 3) := by decide +kernel
theorem d_X5_order_98 : decode mX5_order.2.2.1 98 = .ok (.ifCond .eq 23, 3) := by decide +kernel
theorem d_X5_order_121 : decode mX5_order.2.2.1 121 = .ok (.iconst 0, 1) := by decide +kernel
theorem d_X5_order_122 : decode mX5_order.2.2.1 122 = .ok (.ireturn, 1) := by decide +kernel
theorem d_X5_order_101 : decode mX5_order.2.2.1 101 = .ok (.aload_n 0, 1) := by decide +kernel
theorem d_X5_order_102 : decode mX5_order.2.2.1 102 = .ok (.invokevirtual 174, 3) := by decide +kernel
theorem d_X5_order_105 : decode mX5_order.2.2.1 105 = .ok (.ifCond .eq 16, 3) := by decide +kernel
theorem d_X5_order_108 : decode mX5_order.2.2.1 108 = .ok (.aload_n 0, 1) := by decide +kernel
theorem d_X5_order_109 : decode mX5_order.2.2.1 109 = .ok (.bipush 59, 2) := by decide +kernel
theorem d_X5_order_111 : decode mX5_order.2.2.1 111 = .ok (.invokevirtual 81, 3) := by decide +kernel
theorem d_X5_order_114 : decode mX5_order.2.2.1 114 = .ok (.ifCond .eq 7, 3) := by decide +kernel
theorem d_X5_order_117 : decode mX5_order.2.2.1 117 = .ok (.iconst 1, 1) := by decide +kernel
theorem d_X5_order_118 : decode mX5_order.2.2.1 118 = .ok (.goto 4, 3) := by decide +kernel
theorem d_X5_order_52 : decode mX5_order.2.2.1 52 = .ok (.aload_n 0, 1) := by decide +kernel
theorem d_X5_order_53 : decode mX5_order.2.2.1 53 = .ok (.iload_n 1, 1) := by decide +kernel
theorem d_X5_order_54 : decode mX5_order.2.2.1 54 = .ok (.iconst 2, 1) := by decide +kernel
theorem d_X5_order_55 : decode mX5_order.2.2.1 55 = .ok (.invokevirtual 170, 3) := by decide +kernel
theorem d_X5_order_58 : decode mX5_order.2.2.1 58 = .ok (.ifCond .eq 32, 3) := by decide +kernel
theorem d_X5_order_90 : decode mX5_order.2.2.1 90 = .ok (.iconst 0, 1) := by decide +kernel
theorem d_X5_order_91 : decode mX5_order.2.2.1 91 = .ok (.ireturn, 1) := by decide +kernel
theorem d_X5_order_61 : decode mX5_order.2.2.1 61 = .ok (.aload_n 0, 1) := by decide +kernel
theorem d_X5_order_62 : decode mX5_order.2.2.1 62 = .ok (.bipush 61, 2) := by decide +kernel
theorem d_X5_order_64 : decode mX5_order.2.2.1 64 = .ok (.invokevirtual 81, 3) := by decide +kernel
theorem d_X5_order_67 : decode mX5_order.2.2.1 67 = .ok (.ifCond .eq 23, 3) := by decide +kernel
theorem d_X5_order_70 : decode mX5_order.2.2.1 70 = .ok (.aload_n 0, 1) := by decide +kernel
theorem d_X5_order_71 : decode mX5_order.2.2.1 71 = .ok (.invokevirtual 174, 3) := by decide +kernel
theorem d_X5_order_74 : decode mX5_order.2.2.1 74 = .ok (.ifCond .eq 16, 3) := by decide +kernel
theorem d_X5_order_77 : decode mX5_order.2.2.1 77 = .ok (.aload_n 0, 1) := by decide +kernel
theorem d_X5_order_78 : decode mX5_order.2.2.1 78 = .ok (.bipush 59, 2) := by decide +kernel
theorem d_X5_order_80 : decode mX5_order.2.2.1 80 = .ok (.invokevirtual 81, 3) := by decide +kernel
theorem d_X5_order_83 : decode mX5_order.2.2.1 83 = .ok (.ifCond .eq 7, 3) := by decide +kernel
theorem d_X5_order_86 : decode mX5_order.2.2.1 86 = .ok (.iconst 1, 1) := by decide +kernel
theorem d_X5_order_87 : decode mX5_order.2.2.1 87 = .ok (.goto 4, 3) := by decide +kernel
theorem ok_X5_order : e_m mX5_order 1 := ⟨tblG_in (inT4 (List.mem_of_getElem? (i := 109) rfl)) rfl, plainFor_of_name (by decide), rfl, ini_5, by decide +kernel, by decide⟩
theorem d_X5_orders_99 : decode mX5_orders.2.2.1 99 = .ok (.ifCond .ne 6, 3) := by decide +kernel
theorem d_X5_orders_105 : decode mX5_orders.2.2.1 105 = .ok (.iinc 4 1, 3) := by decide +kernel
theorem d_X5_orders_108 : decode mX5_orders.2.2.1 108 = .ok (.goto (-101), 3) := by decide +kernel
theorem d_X5_orders_102 : decode mX5_orders.2.2.1 102 = .ok (.bipush (-2), 2) := by decide +kernel
theorem d_X5_orders_104 : decode mX5_orders.2.2.1 104 = .ok (.ireturn, 1) := by decide +kernel
theorem d_X5_orders_74 : decode mX5_orders.2.2.1 74 = .ok (.aload_n 0, 1) := by decide +kernel
theorem d_X5_orders_75 : decode mX5_orders.2.2.1 75 = .ok (.getfield 32, 3) := by decide +kernel
theorem d_X5_orders_78 : decode mX5_orders.2.2.1 78 = .ok (.getfield 163, 3) := by decide +kernel
theorem f_5_163 : e_fld 5 163 4 6 13 2 true := ⟨RX4, TX4, 6, rfl, rfl, by decide, rfl, rfl, rfl, iX4, tblG_in (inT1 (List.mem_of_getElem? (i := 123) rfl)) rfl, tyX4_ok, nmX4⟩
theorem d_X5_orders_81 : decode mX5_orders.2.2.1 81 = .ok (.iload_n 3, 1) := by decide +kernel
theorem d_X5_orders_82 : decode mX5_orders.2.2.1 82 = .ok (.iload 5, 2) := by decide +kernel
theorem d_X5_orders_84 : decode mX5_orders.2.2.1 84 = .ok (.iastore, 1) := by decide +kernel
theorem ok_X5_orders : e_m mX5_orders 1 := ⟨tblG_in (inT4 (List.mem_of_getElem? (i := 97) rfl)) rfl, plainFor_of_name (by decide), rfl, ini_5, by decide +kernel, by decide⟩
theorem d_X5_block_17 : decode mX5_block.2.2.1 17 = .ok (.istore_n 2, 1) := by decide +kernel
theorem d_X5_block_18 : decode mX5_block.2.2.1 18 = .ok (.iload_n 2, 1) := by decide +kernel
theorem d_X5_block_19 : decode mX5_block.2.2.1 19 = .ok (.bipush (-2), 2) := by decide +kernel
theorem d_X5_block_21 : decode mX5_block.2.2.1 21 = .ok (.if_icmp .eq 12, 3) := by decide +kernel
theorem d_X5_block_33 : decode mX5_block.2.2.1 33 = .ok (.bipush (-2), 2) := by decide +kernel
theorem d_X5_block_35 : decode mX5_block.2.2.1 35 = .ok (.ireturn, 1) := by decide +kernel
theorem d_X5_block_24 : decode mX5_block.2.2.1 24 = .ok (.aload_n 0, 1) := by decide +kernel
theorem d_X5_block_25 : decode mX5_block.2.2.1 25 = .ok (.bipush 125, 2) := by decide +kernel
theorem d_X5_block_27 : decode mX5_block.2.2.1 27 = .ok (.invokevirtual 209, 3) := by decide +kernel
theorem d_X5_block_30 : decode mX5_block.2.2.1 30 = .ok (.ifCond .ne 6, 3) := by decide +kernel
theorem d_X5_block_36 : decode mX5_block.2.2.1 36 = .ok (.iload_n 2, 1) := by decide +kernel
theorem d_X5_block_37 : decode mX5_block.2.2.1 37 = .ok (.ireturn, 1) := by decide +kernel
theorem d_X5_yesBlock_22 : decode mX5_yesBlock.2.2.1 22 = .ok (.iconst 1, 1) := by decide +kernel
theorem d_X5_yesBlock_23 : decode mX5_yesBlock.2.2.1 23 = .ok (.goto 4, 3) := by decide +kernel
theorem d_X5_order_213 : decode mX5_order.2.2.1 213 = .ok (.iconst 1, 1) := by decide +kernel
theorem d_X5_order_214 : decode mX5_order.2.2.1 214 = .ok (.goto 4, 3) := by decide +kernel
theorem d_X5_order_184 : decode mX5_order.2.2.1 184 = .ok (.aload_n 0, 1) := by decide +kernel
theorem d_X5_order_185 : decode mX5_order.2.2.1 185 = .ok (.iload_n 1, 1) := by decide +kernel
theorem d_X5_order_186 : decode mX5_order.2.2.1 186 = .ok (.invokevirtual 183, 3) := by decide +kernel
def mX5_noBlock : MD := (5, yX5_noBlock, cX5_noBlock, 3, some .boolean)
theorem sel_X5_noBlock : Cond.instanceMethod mX5_noBlock.2.1 ∈ tblG ∧ Cond.selects mX5_noBlock.2.1.cls mX5_noBlock.2.1 mX5_noBlock.2.1 ∈ tblG := ⟨tblG_in (inT4 (List.mem_of_getElem? (i := 181) rfl)) rfl, tblG_in (inP3 (q := (mX5_noBlock.2.1, 7)) (List.mem_of_getElem? (i := 9) rfl)) rfl⟩
theorem s_5_183 : e_siteV 5 183 mX5_noBlock 5 := ⟨tblG_in (inT4 (List.mem_of_getElem? (i := 179) rfl)) rfl, sel_X5_noBlock.1, sel_X5_noBlock.2, rfl⟩
theorem d_X5_noBlock_0 : decode mX5_noBlock.2.2.1 0 = .ok (.aload_n 0, 1) := by decide +kernel
theorem d_X5_noBlock_1 : decode mX5_noBlock.2.2.1 1 = .ok (.bipush 13, 2) := by decide +kernel
theorem d_X5_noBlock_3 : decode mX5_noBlock.2.2.1 3 = .ok (.invokevirtual 71, 3) := by decide +kernel
theorem d_X5_noBlock_6 : decode mX5_noBlock.2.2.1 6 = .ok (.ifCond .ne 5, 3) := by decide +kernel
theorem d_X5_noBlock_11 : decode mX5_noBlock.2.2.1 11 = .ok (.aload_n 0, 1) := by decide +kernel
theorem d_X5_noBlock_12 : decode mX5_noBlock.2.2.1 12 = .ok (.invokevirtual 74, 3) := by decide +kernel
theorem d_X5_noBlock_15 : decode mX5_noBlock.2.2.1 15 = .ok (.pop, 1) := by decide +kernel
theorem d_X5_noBlock_16 : decode mX5_noBlock.2.2.1 16 = .ok (.aload_n 0, 1) := by decide +kernel
theorem d_X5_noBlock_17 : decode mX5_noBlock.2.2.1 17 = .ok (.iload_n 1, 1) := by decide +kernel
theorem d_X5_noBlock_18 : decode mX5_noBlock.2.2.1 18 = .ok (.invokevirtual 197, 3) := by decide +kernel
theorem d_X5_noBlock_21 : decode mX5_noBlock.2.2.1 21 = .ok (.istore_n 2, 1) := by decide +kernel
theorem d_X5_noBlock_22 : decode mX5_noBlock.2.2.1 22 = .ok (.aload_n 0, 1) := by decide +kernel
theorem d_X5_noBlock_23 : decode mX5_noBlock.2.2.1 23 = .ok (.getfield 32, 3) := by decide +kernel
theorem d_X5_noBlock_26 : decode mX5_noBlock.2.2.1 26 = .ok (.getfield 203, 3) := by decide +kernel
theorem f_5_203 : e_fld 5 203 4 5 13 2 true := ⟨RX4, TX4, 5, rfl, rfl, by decide, rfl, rfl, rfl, iX4, tblG_in (inT1 (List.mem_of_getElem? (i := 121) rfl)) rfl, tyX4_ok, nmX4⟩
theorem d_X5_noBlock_29 : decode mX5_noBlock.2.2.1 29 = .ok (.iload_n 1, 1) := by decide +kernel
theorem d_X5_noBlock_30 : decode mX5_noBlock.2.2.1 30 = .ok (.iload_n 2, 1) := by decide +kernel
theorem d_X5_noBlock_31 : decode mX5_noBlock.2.2.1 31 = .ok (.iastore, 1) := by decide +kernel
theorem d_X5_noBlock_32 : decode mX5_noBlock.2.2.1 32 = .ok (.iload_n 2, 1) := by decide +kernel
theorem d_X5_noBlock_33 : decode mX5_noBlock.2.2.1 33 = .ok (.bipush (-2), 2) := by decide +kernel
theorem d_X5_noBlock_35 : decode mX5_noBlock.2.2.1 35 = .ok (.if_icmp .eq 7, 3) := by decide +kernel
theorem d_X5_noBlock_42 : decode mX5_noBlock.2.2.1 42 = .ok (.iconst 0, 1) := by decide +kernel
theorem d_X5_noBlock_43 : decode mX5_noBlock.2.2.1 43 = .ok (.ireturn, 1) := by decide +kernel
theorem d_X5_noBlock_38 : decode mX5_noBlock.2.2.1 38 = .ok (.iconst 1, 1) := by decide +kernel
theorem d_X5_noBlock_39 : decode mX5_noBlock.2.2.1 39 = .ok (.goto 4, 3) := by decide +kernel
theorem d_X5_noBlock_9 : decode mX5_noBlock.2.2.1 9 = .ok (.iconst 1, 1) := by decide +kernel
theorem d_X5_noBlock_10 : decode mX5_noBlock.2.2.1 10 = .ok (.ireturn, 1) := by decide +kernel
theorem ok_X5_noBlock : e_m mX5_noBlock 1 := ⟨tblG_in (inT4 (List.mem_of_getElem? (i := 182) rfl)) rfl, plainFor_of_name (by decide), rfl, ini_5, by decide +kernel, by decide⟩
theorem d_X5_order_189 : decode mX5_order.2.2.1 189 = .ok (.ifCond .eq 7, 3) := by decide +kernel
theorem d_X5_order_192 : decode mX5_order.2.2.1 192 = .ok (.iconst 1, 1) := by decide +kernel
theorem d_X5_order_193 : decode mX5_order.2.2.1 193 = .ok (.goto 4, 3) := by decide +kernel
