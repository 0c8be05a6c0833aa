theorem d_X5_about_28 : decode mX5_about.2.2.1 28 = .ok (.iconst 0, 1) := by decide +kernel
theorem d_X5_about_29 : decode mX5_about.2.2.1 29 = .ok (.ireturn, 1) := by decide +kernel
theorem d_X5_about_24 : decode mX5_about.2.2.1 24 = .ok (.iconst 1, 1) := by decide +kernel
theorem d_X5_about_25 : decode mX5_about.2.2.1 25 = .ok (.goto 4, 3) := by decide +kernel
theorem ok_X5_about : e_m mX5_about 2 := ⟨tblG_in (inT4 (List.mem_of_getElem? (i := 113) rfl)) rfl, plainFor_of_name (by decide), rfl, ini_5, by decide +kernel, by decide⟩
theorem d_X5_order_129 : decode mX5_order.2.2.1 129 = .ok (.ifCond .eq 16, 3) := by decide +kernel
theorem d_X5_order_145 : decode mX5_order.2.2.1 145 = .ok (.iconst 0, 1) := by decide +kernel
theorem d_X5_order_146 : decode mX5_order.2.2.1 146 = .ok (.ireturn, 1) := by decide +kernel
theorem d_X5_order_132 : decode mX5_order.2.2.1 132 = .ok (.aload_n 0, 1) := by decide +kernel
theorem d_X5_order_133 : decode mX5_order.2.2.1 133 = .ok (.bipush 59, 2) := by decide +kernel
theorem d_X5_order_135 : decode mX5_order.2.2.1 135 = .ok (.invokevirtual 81, 3) := by decide +kernel
theorem d_X5_order_138 : decode mX5_order.2.2.1 138 = .ok (.ifCond .eq 7, 3) := by decide +kernel
theorem d_X5_order_141 : decode mX5_order.2.2.1 141 = .ok (.iconst 1, 1) := by decide +kernel
theorem d_X5_order_142 : decode mX5_order.2.2.1 142 = .ok (.goto 4, 3) := by decide +kernel
theorem d_X5_order_92 : decode mX5_order.2.2.1 92 = .ok (.aload_n 0, 1) := by decide +kernel
theorem d_X5_order_93 : decode mX5_order.2.2.1 93 = .ok (.iload_n 1, 1) := by decide +kernel
theorem d_X5_order_94 : decode mX5_order.2.2.1 94 = .ok (.iconst 0, 1) := by decide +kernel
theorem d_X5_order_95 : decode mX5_order.2.2.1 95 = .ok (.invokevirtual 170, 3) := by decide +kernel
theorem d_X5_order_98 : decode mX5_order.2.2.1 98 = .ok (.ifCond .eq 23, 3) := by decide +kernel
theorem d_X5_order_121 : decode mX5_order.2.2.1 121 = .ok (.iconst 0, 1) := by decide +kernel
theorem d_X5_order_122 : decode mX5_order.2.2.1 122 = .ok (.ireturn, 1) := by decide +kernel
theorem d_X5_order_101 : decode mX5_order.2.2.1 101 = .ok (.aload_n 0, 1) := by decide +kernel
theorem d_X5_order_102 : decode mX5_order.2.2.1 102 = .ok (.invokevirtual 174, 3) := by decide +kernel
theorem d_X5_order_105 : decode mX5_order.2.2.1 105 = .ok (.ifCond .eq 16, 3) := by decide +kernel
theorem d_X5_order_108 : decode mX5_order.2.2.1 108 = .ok (.aload_n 0, 1) := by decide +kernel
theorem d_X5_order_109 : decode mX5_order.2.2.1 109 = .ok (.bipush 59, 2) := by decide +kernel
theorem d_X5_order_111 : decode mX5_order.2.2.1 111 = .ok (.invokevirtual 81, 3) := by decide +kernel
theorem d_X5_order_114 : decode mX5_order.2.2.1 114 = .ok (.ifCond .eq 7, 3) := by decide +kernel
theorem d_X5_order_117 : decode mX5_order.2.2.1 117 = .ok (.iconst 1, 1) := by decide +kernel
theorem d_X5_order_118 : decode mX5_order.2.2.1 118 = .ok (.goto 4, 3) := by decide +kernel
theorem d_X5_order_52 : decode mX5_order.2.2.1 52 = .ok (.aload_n 0, 1) := by decide +kernel
theorem d_X5_order_53 : decode mX5_order.2.2.1 53 = .ok (.iload_n 1, 1) := by decide +kernel
theorem d_X5_order_54 : decode mX5_order.2.2.1 54 = .ok (.iconst 2, 1) := by decide +kernel
theorem d_X5_order_55 : decode mX5_order.2.2.1 55 = .ok (.invokevirtual 170, 3) := by decide +kernel
theorem d_X5_order_58 : decode mX5_order.2.2.1 58 = .ok (.ifCond .eq 32, 3) := by decide +kernel
theorem d_X5_order_90 : decode mX5_order.2.2.1 90 = .ok (.iconst 0, 1) := by decide +kernel
theorem d_X5_order_91 : decode mX5_order.2.2.1 91 = .ok (.ireturn, 1) := by decide +kernel
theorem d_X5_order_61 : decode mX5_order.2.2.1 61 = .ok (.aload_n 0, 1) := by decide +kernel
theorem d_X5_order_62 : decode mX5_order.2.2.1 62 = .ok (.bipush 61, 2) := by decide +kernel
theorem d_X5_order_64 : decode mX5_order.2.2.1 64 = .ok (.invokevirtual 81, 3) := by decide +kernel
theorem d_X5_order_67 : decode mX5_order.2.2.1 67 = .ok (.ifCond .eq 23, 3) := by decide +kernel
theorem d_X5_order_70 : decode mX5_order.2.2.1 70 = .ok (.aload_n 0, 1) := by decide +kernel
theorem d_X5_order_71 : decode mX5_order.2.2.1 71 = .ok (.invokevirtual 174, 3) := by decide +kernel
theorem d_X5_order_74 : decode mX5_order.2.2.1 74 = .ok (.ifCond .eq 16, 3) := by decide +kernel
theorem d_X5_order_77 : decode mX5_order.2.2.1 77 = .ok (.aload_n 0, 1) := by decide +kernel
theorem d_X5_order_78 : decode mX5_order.2.2.1 78 = .ok (.bipush 59, 2) := by decide +kernel
theorem d_X5_order_80 : decode mX5_order.2.2.1 80 = .ok (.invokevirtual 81, 3) := by decide +kernel
theorem d_X5_order_83 : decode mX5_order.2.2.1 83 = .ok (.ifCond .eq 7, 3) := by decide +kernel
theorem d_X5_order_86 : decode mX5_order.2.2.1 86 = .ok (.iconst 1, 1) := by decide +kernel
theorem d_X5_order_87 : decode mX5_order.2.2.1 87 = .ok (.goto 4, 3) := by decide +kernel
theorem ok_X5_order : e_m mX5_order 1 := ⟨tblG_in (inT4 (List.mem_of_getElem? (i := 109) rfl)) rfl, plainFor_of_name (by decide), rfl, ini_5, by decide +kernel, by decide⟩
theorem d_X5_orders_99 : decode mX5_orders.2.2.1 99 = .ok (.ifCond .ne 6, 3) := by decide +kernel
theorem d_X5_orders_105 : decode mX5_orders.2.2.1 105 = .ok (.iinc 4 1, 3) := by decide +kernel
theorem d_X5_orders_108 : decode mX5_orders.2.2.1 108 = .ok (.goto (-101), 3) := by decide +kernel
theorem d_X5_orders_102 : decode mX5_orders.2.2.1 102 = .ok (.bipush (-2), 2) := by decide +kernel
theorem d_X5_orders_104 : decode mX5_orders.2.2.1 104 = .ok (.ireturn, 1) := by decide +kernel
theorem d_X5_orders_74 : decode mX5_orders.2.2.1 74 = .ok (.aload_n 0, 1) := by decide +kernel
theorem d_X5_orders_75 : decode mX5_orders.2.2.1 75 = .ok (.getfield 32, 3) := by decide +kernel
theorem d_X5_orders_78 : decode mX5_orders.2.2.1 78 = .ok (.getfield 163, 3) := by decide +kernel
theorem f_5_163 : e_fld 5 163 4 6 13 2 true := ⟨RX4, TX4, 6, rfl, rfl, by decide, rfl, rfl, rfl, iX4, tblG_in (inT1 (List.mem_of_getElem? (i := 123) rfl)) rfl, tyX4_ok, nmX4⟩
theorem d_X5_orders_81 : decode mX5_orders.2.2.1 81 = .ok (.iload_n 3, 1) := by decide +kernel
theorem d_X5_orders_82 : decode mX5_orders.2.2.1 82 = .ok (.iload 5, 2) := by decide +kernel
theorem d_X5_orders_84 : decode mX5_orders.2.2.1 84 = .ok (.iastore, 1) := by decide +kernel
theorem ok_X5_orders : e_m mX5_orders 1 := ⟨tblG_in (inT4 (List.mem_of_getElem? (i := 97) rfl)) rfl, plainFor_of_name (by decide), rfl, ini_5, by decide +kernel, by decide⟩
theorem d_X5_block_17 : decode mX5_block.2.2.1 17 = .ok (.istore_n 2, 1) := by decide +kernel
theorem d_X5_block_18 : decode mX5_block.2.2.1 18 = .ok (.iload_n 2, 1) := by decide +kernel
theorem d_X5_block_19 : decode mX5_block.2.2.1 19 = .ok (.bipush (-2), 2) := by decide +kernel
theorem d_X5_block_21 : decode mX5_block.2.2.1 21 = .ok (.if_icmp .eq 12, 3) := by decide +kernel
theorem d_X5_block_33 : decode mX5_block.2.2.1 33 = .ok (.bipush (-2), 2) := by decide +kernel
theorem d_X5_block_35 : decode mX5_block.2.2.1 35 = .ok (.ireturn, 1) := by decide +kernel
theorem d_X5_block_24 : decode mX5_block.2.2.1 24 = .ok (.aload_n 0, 1) := by decide +kernel
theorem d_X5_block_25 : decode mX5_block.2.2.1 25 = .ok (.bipush 125, 2) := by decide +kernel
theorem d_X5_block_27 : decode mX5_block.2.2.1 27 = .ok (.invokevirtual 209, 3) := by decide +kernel
theorem d_X5_block_30 : decode mX5_block.2.2.1 30 = .ok (.ifCond .ne 6, 3) := by decide +kernel
theorem d_X5_block_36 : decode mX5_block.2.2.1 36 = .ok (.iload_n 2, 1) := by decide +kernel
theorem d_X5_block_37 : decode mX5_block.2.2.1 37 = .ok (.ireturn, 1) := by decide +kernel
theorem d_X5_yesBlock_22 : decode mX5_yesBlock.2.2.1 22 = .ok (.iconst 1, 1) := by decide +kernel
theorem d_X5_yesBlock_23 : decode mX5_yesBlock.2.2.1 23 = .ok (.goto 4, 3) := by decide +kernel
theorem d_X5_order_213 : decode mX5_order.2.2.1 213 = .ok (.iconst 1, 1) := by decide +kernel
theorem d_X5_order_214 : decode mX5_order.2.2.1 214 = .ok (.goto 4, 3) := by decide +kernel
theorem d_X5_order_184 : decode mX5_order.2.2.1 184 = .ok (.aload_n 0, 1) := by decide +kernel
theorem d_X5_order_185 : decode mX5_order.2.2.1 185 = .ok (.iload_n 1, 1) := by decide +kernel
theorem d_X5_order_186 : decode mX5_order.2.2.1 186 = .ok (.invokevirtual 183, 3) := by decide +kernel
def mX5_noBlock : MD := (5, yX5_noBlock, cX5_noBlock, 3, some .boolean)
theorem sel_X5_noBlock : Cond.instanceMethod mX5_noBlock.2.1 ∈ tblG ∧ Cond.selects mX5_noBlock.2.1.cls mX5_noBlock.2.1 mX5_noBlock.2.1 ∈ tblG := ⟨tblG_in (inT4 (List.mem_of_getElem? (i := 181) rfl)) rfl, tblG_in (inP3 (q := (mX5_noBlock.2.1, 7)) (List.mem_of_getElem? (i := 9) rfl)) rfl⟩
theorem s_5_183 : e_siteV 5 183 mX5_noBlock 5 := ⟨tblG_in (inT4 (List.mem_of_getElem? (i := 179) rfl)) rfl, sel_X5_noBlock.1, sel_X5_noBlock.2, rfl⟩
theorem d_X5_noBlock_0 : decode mX5_noBlock.2.2.1 0 = .ok (.aload_n 0, 1) := by decide +kernel
theorem d_X5_noBlock_1 : decode mX5_noBlock.2.2.1 1 = .ok (.bipush 13, 2) := by decide +kernel
theorem d_X5_noBlock_3 : decode mX5_noBlock.2.2.1 3 = .ok (.invokevirtual 71, 3) := by decide +kernel
theorem d_X5_noBlock_6 : decode mX5_noBlock.2.2.1 6 = .ok (.ifCond .ne 5, 3) := by decide +kernel
theorem d_X5_noBlock_11 : decode mX5_noBlock.2.2.1 11 = .ok (.aload_n 0, 1) := by decide +kernel
theorem d_X5_noBlock_12 : decode mX5_noBlock.2.2.1 12 = .ok (.invokevirtual 74, 3) := by decide +kernel
theorem d_X5_noBlock_15 : decode mX5_noBlock.2.2.1 15 = .ok (.pop, 1) := by decide +kernel
theorem d_X5_noBlock_16 : decode mX5_noBlock.2.2.1 16 = .ok (.aload_n 0, 1) := by decide +kernel
theorem d_X5_noBlock_17 : decode mX5_noBlock.2.2.1 17 = .ok (.iload_n 1, 1) := by decide +kernel
theorem d_X5_noBlock_18 : decode mX5_noBlock.2.2.1 18 = .ok (.invokevirtual 197, 3) := by decide +kernel
theorem d_X5_noBlock_21 : decode mX5_noBlock.2.2.1 21 = .ok (.istore_n 2, 1) := by decide +kernel
theorem d_X5_noBlock_22 : decode mX5_noBlock.2.2.1 22 = .ok (.aload_n 0, 1) := by decide +kernel
theorem d_X5_noBlock_23 : decode mX5_noBlock.2.2.1 23 = .ok (.getfield 32, 3) := by decide +kernel
theorem d_X5_noBlock_26 : decode mX5_noBlock.2.2.1 26 = .ok (.getfield 203, 3) := by decide +kernel
theorem f_5_203 : e_fld 5 203 4 5 13 2 true := ⟨RX4, TX4, 5, rfl, rfl, by decide, rfl, rfl, rfl, iX4, tblG_in (inT1 (List.mem_of_getElem? (i := 121) rfl)) rfl, tyX4_ok, nmX4⟩
theorem d_X5_noBlock_29 : decode mX5_noBlock.2.2.1 29 = .ok (.iload_n 1, 1) := by decide +kernel
theorem d_X5_noBlock_30 : decode mX5_noBlock.2.2.1 30 = .ok (.iload_n 2, 1) := by decide +kernel
theorem d_X5_noBlock_31 : decode mX5_noBlock.2.2.1 31 = .ok (.iastore, 1) := by decide +kernel
theorem d_X5_noBlock_32 : decode mX5_noBlock.2.2.1 32 = .ok (.iload_n 2, 1) := by decide +kernel
theorem d_X5_noBlock_33 : decode mX5_noBlock.2.2.1 33 = .ok (.bipush (-2), 2) := by decide +kernel
theorem d_X5_noBlock_35 : decode mX5_noBlock.2.2.1 35 = .ok (.if_icmp .eq 7, 3) := by decide +kernel
theorem d_X5_noBlock_42 : decode mX5_noBlock.2.2.1 42 = .ok (.iconst 0, 1) := by decide +kernel
theorem d_X5_noBlock_43 : decode mX5_noBlock.2.2.1 43 = .ok (.ireturn, 1) := by decide +kernel
theorem d_X5_noBlock_38 : decode mX5_noBlock.2.2.1 38 = .ok (.iconst 1, 1) := by decide +kernel
theorem d_X5_noBlock_39 : decode mX5_noBlock.2.2.1 39 = .ok (.goto 4, 3) := by decide +kernel
theorem d_X5_noBlock_9 : decode mX5_noBlock.2.2.1 9 = .ok (.iconst 1, 1) := by decide +kernel
theorem d_X5_noBlock_10 : decode mX5_noBlock.2.2.1 10 = .ok (.ireturn, 1) := by decide +kernel
theorem ok_X5_noBlock : e_m mX5_noBlock 1 := ⟨tblG_in (inT4 (List.mem_of_getElem? (i := 182) rfl)) rfl, plainFor_of_name (by decide), rfl, ini_5, by decide +kernel, by decide⟩
theorem d_X5_order_189 : decode mX5_order.2.2.1 189 = .ok (.ifCond .eq 7, 3) := by decide +kernel
theorem d_X5_order_192 : decode mX5_order.2.2.1 192 = .ok (.iconst 1, 1) := by decide +kernel
theorem d_X5_order_193 : decode mX5_order.2.2.1 193 = .ok (.goto 4, 3) := by decide +kernel
theorem d_X5_read_57 : decode mX5_read.2.2.1 57 = .ok (.bipush (-2), 2) := by decide +kernel
theorem d_X5_read_59 : decode mX5_read.2.2.1 59 = .ok (.if_icmp .ne 5, 3) := by decide +kernel
theorem d_X5_read_64 : decode mX5_read.2.2.1 64 = .ok (.aload_n 0, 1) := by decide +kernel
theorem d_X5_read_65 : decode mX5_read.2.2.1 65 = .ok (.getfield 18, 3) := by decide +kernel
theorem d_X5_read_68 : decode mX5_read.2.2.1 68 = .ok (.getfield 50, 3) := by decide +kernel
theorem d_X5_read_71 : decode mX5_read.2.2.1 71 = .ok (.aload_n 0, 1) := by decide +kernel
theorem d_X5_read_72 : decode mX5_read.2.2.1 72 = .ok (.getfield 36, 3) := by decide +kernel
theorem d_X5_read_75 : decode mX5_read.2.2.1 75 = .ok (.iaload, 1) := by decide +kernel
theorem d_X5_read_76 : decode mX5_read.2.2.1 76 = .ok (.ifCond .eq 9, 3) := by decide +kernel
theorem d_X5_read_85 : decode mX5_read.2.2.1 85 = .ok (.aload_n 0, 1) := by decide +kernel
theorem d_X5_read_86 : decode mX5_read.2.2.1 86 = .ok (.getfield 32, 3) := by decide +kernel
theorem d_X5_read_89 : decode mX5_read.2.2.1 89 = .ok (.invokevirtual 60, 3) := by decide +kernel
theorem sel_X4_link : Cond.instanceMethod mX4_link.2.1 ∈ tblG ∧ Cond.selects mX4_link.2.1.cls mX4_link.2.1 mX4_link.2.1 ∈ tblG := ⟨tblG_in (inT4 (List.mem_of_getElem? (i := 184) rfl)) rfl, tblG_in (inT4 (List.mem_of_getElem? (i := 185) rfl)) rfl⟩
theorem s_5_60 : e_siteV 5 60 mX4_link 4 := ⟨tblG_in (inT4 (List.mem_of_getElem? (i := 183) rfl)) rfl, sel_X4_link.1, sel_X4_link.2, rfl⟩
theorem ok_X4_link : e_m mX4_link 0 := ⟨tblG_in (inT4 (List.mem_of_getElem? (i := 186) rfl)) rfl, plainFor_of_name (by decide), rfl, ini_4, by decide +kernel, by decide⟩
theorem d_X5_read_92 : decode mX5_read.2.2.1 92 = .ok (.iconst 1, 1) := by decide +kernel
theorem d_X5_read_93 : decode mX5_read.2.2.1 93 = .ok (.ireturn, 1) := by decide +kernel
theorem d_X5_read_79 : decode mX5_read.2.2.1 79 = .ok (.aload_n 0, 1) := by decide +kernel
theorem d_X5_read_80 : decode mX5_read.2.2.1 80 = .ok (.iconst 1, 1) := by decide +kernel
theorem d_X5_read_81 : decode mX5_read.2.2.1 81 = .ok (.invokevirtual 56, 3) := by decide +kernel
theorem d_X5_read_84 : decode mX5_read.2.2.1 84 = .ok (.ireturn, 1) := by decide +kernel
theorem ok_X5_read : e_m mX5_read 2 := ⟨tblG_in (inT4 (List.mem_of_getElem? (i := 16) rfl)) rfl, plainFor_of_name (by decide), rfl, ini_5, by decide +kernel, by decide⟩
theorem d_X11_text_35 : decode mX11_text.2.2.1 35 = .ok (.ifCond .ne 5, 3) := by decide +kernel
theorem d_X11_text_40 : decode mX11_text.2.2.1 40 = .ok (.aload_n 0, 1) := by decide +kernel
theorem d_X11_text_41 : decode mX11_text.2.2.1 41 = .ok (.getfield 30, 3) := by decide +kernel
theorem d_X11_text_44 : decode mX11_text.2.2.1 44 = .ok (.astore_n 1, 1) := by decide +kernel
theorem d_X11_text_45 : decode mX11_text.2.2.1 45 = .ok (.aload_n 0, 1) := by decide +kernel
theorem d_X11_text_46 : decode mX11_text.2.2.1 46 = .ok (.aload_n 0, 1) := by decide +kernel
theorem d_X11_text_47 : decode mX11_text.2.2.1 47 = .ok (.getfield 34, 3) := by decide +kernel
theorem d_X11_text_50 : decode mX11_text.2.2.1 50 = .ok (.putfield 30, 3) := by decide +kernel
theorem d_X11_text_53 : decode mX11_text.2.2.1 53 = .ok (.aload_n 0, 1) := by decide +kernel
theorem d_X11_text_54 : decode mX11_text.2.2.1 54 = .ok (.aload_n 1, 1) := by decide +kernel
theorem d_X11_text_55 : decode mX11_text.2.2.1 55 = .ok (.putfield 34, 3) := by decide +kernel
theorem d_X11_text_58 : decode mX11_text.2.2.1 58 = .ok (.aload_n 0, 1) := by decide +kernel
theorem d_X11_text_59 : decode mX11_text.2.2.1 59 = .ok (.getfield 30, 3) := by decide +kernel
theorem d_X11_text_62 : decode mX11_text.2.2.1 62 = .ok (.getfield 100, 3) := by decide +kernel
theorem d_X11_text_65 : decode mX11_text.2.2.1 65 = .ok (.iconst 0, 1) := by decide +kernel
theorem d_X11_text_66 : decode mX11_text.2.2.1 66 = .ok (.aload_n 0, 1) := by decide +kernel
theorem d_X11_text_67 : decode mX11_text.2.2.1 67 = .ok (.getfield 37, 3) := by decide +kernel
theorem d_X11_text_70 : decode mX11_text.2.2.1 70 = .ok (.iconst 0, 1) := by decide +kernel
theorem d_X11_text_71 : decode mX11_text.2.2.1 71 = .ok (.iconst 3, 1) := by decide +kernel
theorem d_X11_text_72 : decode mX11_text.2.2.1 72 = .ok (.invokestatic 103, 3) := by decide +kernel
theorem ac_11_103 : Cond.methodLink (e_cn 11) 103 arraycopyName ∈ tblG := tblG_in (inT4 (List.mem_of_getElem? (i := 191) rfl)) rfl
theorem d_X11_text_75 : decode mX11_text.2.2.1 75 = .ok (.aload_n 0, 1) := by decide +kernel
theorem d_X11_text_76 : decode mX11_text.2.2.1 76 = .ok (.iconst 0, 1) := by decide +kernel
theorem d_X11_text_77 : decode mX11_text.2.2.1 77 = .ok (.putfield 109, 3) := by decide +kernel
theorem d_X11_text_80 : decode mX11_text.2.2.1 80 = .ok (.aload_n 0, 1) := by decide +kernel
theorem d_X11_text_81 : decode mX11_text.2.2.1 81 = .ok (.getfield 63, 3) := by decide +kernel
theorem d_X11_text_84 : decode mX11_text.2.2.1 84 = .ok (.invokevirtual 113, 3) := by decide +kernel
theorem sel_X10_clear : Cond.instanceMethod mX10_clear.2.1 ∈ tblG ∧ Cond.selects mX10_clear.2.1.cls mX10_clear.2.1 mX10_clear.2.1 ∈ tblG := ⟨tblG_in (inT4 (List.mem_of_getElem? (i := 195) rfl)) rfl, tblG_in (inT4 (List.mem_of_getElem? (i := 196) rfl)) rfl⟩
theorem s_11_113 : e_siteV 11 113 mX10_clear 10 := ⟨tblG_in (inT4 (List.mem_of_getElem? (i := 194) rfl)) rfl, sel_X10_clear.1, sel_X10_clear.2, rfl⟩
theorem ok_X10_clear : e_m mX10_clear 0 := ⟨tblG_in (inT4 (List.mem_of_getElem? (i := 197) rfl)) rfl, plainFor_of_name (by decide), rfl, ini_10, by decide +kernel, by decide⟩
theorem d_X11_text_87 : decode mX11_text.2.2.1 87 = .ok (.aload_n 0, 1) := by decide +kernel
theorem d_X11_text_88 : decode mX11_text.2.2.1 88 = .ok (.getfield 70, 3) := by decide +kernel
theorem d_X11_text_91 : decode mX11_text.2.2.1 91 = .ok (.invokevirtual 114, 3) := by decide +kernel
theorem sel_X2_clear : Cond.instanceMethod mX2_clear.2.1 ∈ tblG ∧ Cond.selects mX2_clear.2.1.cls mX2_clear.2.1 mX2_clear.2.1 ∈ tblG := ⟨tblG_in (inT4 (List.mem_of_getElem? (i := 199) rfl)) rfl, tblG_in (inT4 (List.mem_of_getElem? (i := 200) rfl)) rfl⟩
theorem s_11_114 : e_siteV 11 114 mX2_clear 2 := ⟨tblG_in (inT4 (List.mem_of_getElem? (i := 198) rfl)) rfl, sel_X2_clear.1, sel_X2_clear.2, rfl⟩
theorem ok_X2_clear : e_m mX2_clear 0 := ⟨tblG_in (inT4 (List.mem_of_getElem? (i := 201) rfl)) rfl, plainFor_of_name (by decide), rfl, ini_2, by decide +kernel, by decide⟩
theorem d_X11_text_94 : decode mX11_text.2.2.1 94 = .ok (.aload_n 0, 1) := by decide +kernel
theorem d_X11_text_95 : decode mX11_text.2.2.1 95 = .ok (.getfield 30, 3) := by decide +kernel
theorem d_X11_text_98 : decode mX11_text.2.2.1 98 = .ok (.getfield 115, 3) := by decide +kernel
theorem d_X11_text_101 : decode mX11_text.2.2.1 101 = .ok (.getfield 119, 3) := by decide +kernel
theorem d_X11_text_104 : decode mX11_text.2.2.1 104 = .ok (.ireturn, 1) := by decide +kernel
theorem d_X11_text_38 : decode mX11_text.2.2.1 38 = .ok (.iconst (-1), 1) := by decide +kernel
theorem d_X11_text_39 : decode mX11_text.2.2.1 39 = .ok (.ireturn, 1) := by decide +kernel
