theorem d_X9_spread_90 : decode mX9_spread.2.2.1 90 = .ok (.iload_n 3, 1) := by decide +kernel
theorem d_X9_spread_91 : decode mX9_spread.2.2.1 91 = .ok (.aload_n 0, 1) := by decide +kernel
theorem d_X9_spread_92 : decode mX9_spread.2.2.1 92 = .ok (.getfield 15, 3) := by decide +kernel
theorem d_X9_spread_95 : decode mX9_spread.2.2.1 95 = .ok (.iload 6, 2) := by decide +kernel
theorem d_X9_spread_97 : decode mX9_spread.2.2.1 97 = .ok (.iaload, 1) := by decide +kernel
theorem d_X9_spread_98 : decode mX9_spread.2.2.1 98 = .ok (.isub, 1) := by decide +kernel
theorem d_X9_spread_99 : decode mX9_spread.2.2.1 99 = .ok (.i2l, 1) := by decide +kernel
theorem d_X9_spread_100 : decode mX9_spread.2.2.1 100 = .ok (.lmul, 1) := by decide +kernel
theorem d_X9_spread_101 : decode mX9_spread.2.2.1 101 = .ok (.ladd, 1) := by decide +kernel
theorem d_X9_spread_102 : decode mX9_spread.2.2.1 102 = .ok (.lastore, 1) := by decide +kernel
theorem d_X9_spread_103 : decode mX9_spread.2.2.1 103 = .ok (.aload_n 0, 1) := by decide +kernel
theorem d_X9_spread_104 : decode mX9_spread.2.2.1 104 = .ok (.getfield 15, 3) := by decide +kernel
theorem d_X9_spread_107 : decode mX9_spread.2.2.1 107 = .ok (.iload 6, 2) := by decide +kernel
theorem d_X9_spread_109 : decode mX9_spread.2.2.1 109 = .ok (.iload_n 3, 1) := by decide +kernel
theorem d_X9_spread_110 : decode mX9_spread.2.2.1 110 = .ok (.iastore, 1) := by decide +kernel
theorem d_X9_spread_35 : decode mX9_spread.2.2.1 35 = .ok (.aload_n 0, 1) := by decide +kernel
theorem d_X9_spread_36 : decode mX9_spread.2.2.1 36 = .ok (.getfield 11, 3) := by decide +kernel
theorem d_X9_spread_39 : decode mX9_spread.2.2.1 39 = .ok (.iload 6, 2) := by decide +kernel
theorem d_X9_spread_41 : decode mX9_spread.2.2.1 41 = .ok (.dup2, 1) := by decide +kernel
theorem d_X9_spread_42 : decode mX9_spread.2.2.1 42 = .ok (.laload, 1) := by decide +kernel
theorem d_X9_spread_43 : decode mX9_spread.2.2.1 43 = .ok (.iload 5, 2) := by decide +kernel
theorem d_X9_spread_45 : decode mX9_spread.2.2.1 45 = .ok (.i2l, 1) := by decide +kernel
theorem d_X9_spread_46 : decode mX9_spread.2.2.1 46 = .ok (.iload 4, 2) := by decide +kernel
theorem d_X9_spread_48 : decode mX9_spread.2.2.1 48 = .ok (.i2l, 1) := by decide +kernel
theorem d_X9_spread_49 : decode mX9_spread.2.2.1 49 = .ok (.iload_n 3, 1) := by decide +kernel
theorem d_X9_spread_50 : decode mX9_spread.2.2.1 50 = .ok (.iload_n 2, 1) := by decide +kernel
theorem d_X9_spread_51 : decode mX9_spread.2.2.1 51 = .ok (.isub, 1) := by decide +kernel
theorem d_X9_spread_52 : decode mX9_spread.2.2.1 52 = .ok (.i2l, 1) := by decide +kernel
theorem d_X9_spread_53 : decode mX9_spread.2.2.1 53 = .ok (.lmul, 1) := by decide +kernel
theorem d_X9_spread_54 : decode mX9_spread.2.2.1 54 = .ok (.ladd, 1) := by decide +kernel
theorem d_X9_spread_55 : decode mX9_spread.2.2.1 55 = .ok (.ladd, 1) := by decide +kernel
theorem d_X9_spread_56 : decode mX9_spread.2.2.1 56 = .ok (.lastore, 1) := by decide +kernel
theorem d_X9_spread_57 : decode mX9_spread.2.2.1 57 = .ok (.aload_n 0, 1) := by decide +kernel
theorem d_X9_spread_58 : decode mX9_spread.2.2.1 58 = .ok (.getfield 15, 3) := by decide +kernel
theorem d_X9_spread_61 : decode mX9_spread.2.2.1 61 = .ok (.iload 6, 2) := by decide +kernel
theorem d_X9_spread_63 : decode mX9_spread.2.2.1 63 = .ok (.iload_n 3, 1) := by decide +kernel
theorem d_X9_spread_64 : decode mX9_spread.2.2.1 64 = .ok (.iastore, 1) := by decide +kernel
theorem d_X9_spread_65 : decode mX9_spread.2.2.1 65 = .ok (.goto 46, 3) := by decide +kernel
theorem d_X9_spread_111 : decode mX9_spread.2.2.1 111 = .ok (.iinc 6 1, 3) := by decide +kernel
theorem d_X9_spread_114 : decode mX9_spread.2.2.1 114 = .ok (.goto (-105), 3) := by decide +kernel
theorem d_X9_spread_117 : decode mX9_spread.2.2.1 117 = .ok (.return_, 1) := by decide +kernel
theorem ok_X9_spread : e_m mX9_spread 5 := ⟨tblG_in (inT6 (List.mem_of_getElem? (i := 26) rfl)) rfl, plainFor_of_name (by decide), rfl, ini_9, by decide +kernel, by decide⟩
theorem d_X9_weigh_173 : decode mX9_weigh.2.2.1 173 = .ok (.iinc 7 1, 3) := by decide +kernel
theorem d_X9_weigh_176 : decode mX9_weigh.2.2.1 176 = .ok (.goto (-104), 3) := by decide +kernel
theorem ok_X9_weigh : e_m mX9_weigh 3 := ⟨tblG_in (inT6 (List.mem_of_getElem? (i := 4) rfl)) rfl, plainFor_of_name (by decide), rfl, ini_9, by decide +kernel, by decide⟩
theorem d_X11_byTurns_91 : decode mX11_byTurns.2.2.1 91 = .ok (.aload_n 0, 1) := by decide +kernel
theorem d_X11_byTurns_92 : decode mX11_byTurns.2.2.1 92 = .ok (.getfield 56, 3) := by decide +kernel
theorem d_X11_byTurns_95 : decode mX11_byTurns.2.2.1 95 = .ok (.iload_n 3, 1) := by decide +kernel
theorem d_X11_byTurns_96 : decode mX11_byTurns.2.2.1 96 = .ok (.iload 4, 2) := by decide +kernel
theorem d_X11_byTurns_98 : decode mX11_byTurns.2.2.1 98 = .ok (.invokevirtual 242, 3) := by decide +kernel
def mX9_share : MD := (9, yX9_share, cX9_share, 11, some .long)
theorem sel_X9_share : Cond.instanceMethod mX9_share.2.1 ∈ tblG ∧ Cond.selects mX9_share.2.1.cls mX9_share.2.1 mX9_share.2.1 ∈ tblG := ⟨tblG_in (inT6 (List.mem_of_getElem? (i := 28) rfl)) rfl, tblG_in (inT6 (List.mem_of_getElem? (i := 29) rfl)) rfl⟩
theorem s_11_242 : e_siteV 11 242 mX9_share 9 := ⟨tblG_in (inT6 (List.mem_of_getElem? (i := 27) rfl)) rfl, sel_X9_share.1, sel_X9_share.2, rfl⟩
theorem d_X9_share_0 : decode mX9_share.2.2.1 0 = .ok (.aload_n 0, 1) := by decide +kernel
theorem d_X9_share_1 : decode mX9_share.2.2.1 1 = .ok (.getfield 28, 3) := by decide +kernel
theorem d_X9_share_4 : decode mX9_share.2.2.1 4 = .ok (.invokestatic 89, 3) := by decide +kernel
theorem d_X9_share_7 : decode mX9_share.2.2.1 7 = .ok (.istore_n 3, 1) := by decide +kernel
theorem d_X9_share_8 : decode mX9_share.2.2.1 8 = .ok (.iload_n 3, 1) := by decide +kernel
theorem d_X9_share_9 : decode mX9_share.2.2.1 9 = .ok (.iconst 1, 1) := by decide +kernel
theorem d_X9_share_10 : decode mX9_share.2.2.1 10 = .ok (.if_icmp .lt 9, 3) := by decide +kernel
theorem d_X9_share_19 : decode mX9_share.2.2.1 19 = .ok (.ldc2_w 98, 3) := by decide +kernel
theorem kl_9_98 : Jvm.Cond.constantLong (e_cn 9) 98 (Int64.ofInt (-1000000000000000)) ∈ tblG := tblG_in (inT6 (List.mem_of_getElem? (i := 31) rfl)) rfl
theorem d_X9_share_22 : decode mX9_share.2.2.1 22 = .ok (.lreturn, 1) := by decide +kernel
theorem d_X9_share_13 : decode mX9_share.2.2.1 13 = .ok (.iload_n 3, 1) := by decide +kernel
theorem d_X9_share_14 : decode mX9_share.2.2.1 14 = .ok (.bipush 8, 2) := by decide +kernel
theorem d_X9_share_16 : decode mX9_share.2.2.1 16 = .ok (.if_icmp .le 7, 3) := by decide +kernel
theorem d_X9_share_23 : decode mX9_share.2.2.1 23 = .ok (.aload_n 0, 1) := by decide +kernel
theorem d_X9_share_24 : decode mX9_share.2.2.1 24 = .ok (.iload_n 1, 1) := by decide +kernel
theorem d_X9_share_25 : decode mX9_share.2.2.1 25 = .ok (.invokevirtual 82, 3) := by decide +kernel
theorem d_X9_share_28 : decode mX9_share.2.2.1 28 = .ok (.istore 4, 2) := by decide +kernel
theorem d_X9_share_30 : decode mX9_share.2.2.1 30 = .ok (.lconst 0, 1) := by decide +kernel
theorem d_X9_share_31 : decode mX9_share.2.2.1 31 = .ok (.lstore 5, 2) := by decide +kernel
theorem d_X9_share_33 : decode mX9_share.2.2.1 33 = .ok (.iconst 0, 1) := by decide +kernel
theorem d_X9_share_34 : decode mX9_share.2.2.1 34 = .ok (.istore 7, 2) := by decide +kernel
theorem d_X9_share_36 : decode mX9_share.2.2.1 36 = .ok (.iload 7, 2) := by decide +kernel
theorem d_X9_share_38 : decode mX9_share.2.2.1 38 = .ok (.iconst 1, 1) := by decide +kernel
theorem d_X9_share_39 : decode mX9_share.2.2.1 39 = .ok (.iload_n 3, 1) := by decide +kernel
theorem d_X9_share_40 : decode mX9_share.2.2.1 40 = .ok (.ishl, 1) := by decide +kernel
theorem d_X9_share_41 : decode mX9_share.2.2.1 41 = .ok (.if_icmp .ge 71, 3) := by decide +kernel
theorem d_X9_share_44 : decode mX9_share.2.2.1 44 = .ok (.iload 7, 2) := by decide +kernel
theorem d_X9_share_46 : decode mX9_share.2.2.1 46 = .ok (.iload 4, 2) := by decide +kernel
theorem d_X9_share_48 : decode mX9_share.2.2.1 48 = .ok (.iand, 1) := by decide +kernel
theorem d_X9_share_49 : decode mX9_share.2.2.1 49 = .ok (.ifCond .ne 57, 3) := by decide +kernel
theorem d_X9_share_52 : decode mX9_share.2.2.1 52 = .ok (.iload 7, 2) := by decide +kernel
theorem d_X9_share_54 : decode mX9_share.2.2.1 54 = .ok (.invokestatic 100, 3) := by decide +kernel
def mJ6_bitCount_0f7a4 : MD := (18, yJ6_bitCount_0f7a4, cJ6_bitCount_0f7a4, 1, some .int)
theorem s_9_100 : e_siteS 9 100 mJ6_bitCount_0f7a4 := ⟨tblG_in (inT6 (List.mem_of_getElem? (i := 32) rfl)) rfl, tblG_in (inT6 (List.mem_of_getElem? (i := 33) rfl)) rfl⟩
theorem d_J6_bitCount_0f7a4_0 : decode mJ6_bitCount_0f7a4.2.2.1 0 = .ok (.iload_n 0, 1) := by decide +kernel
theorem d_J6_bitCount_0f7a4_1 : decode mJ6_bitCount_0f7a4.2.2.1 1 = .ok (.iload_n 0, 1) := by decide +kernel
theorem d_J6_bitCount_0f7a4_2 : decode mJ6_bitCount_0f7a4.2.2.1 2 = .ok (.iconst 1, 1) := by decide +kernel
theorem d_J6_bitCount_0f7a4_3 : decode mJ6_bitCount_0f7a4.2.2.1 3 = .ok (.iushr, 1) := by decide +kernel
theorem d_J6_bitCount_0f7a4_4 : decode mJ6_bitCount_0f7a4.2.2.1 4 = .ok (.ldc_w 265, 3) := by decide +kernel
theorem k_18_265 : Jvm.Cond.constant (e_cn 18) 265 (Int32.ofInt 1431655765) ∈ tblG := tblG_in (inT6 (List.mem_of_getElem? (i := 35) rfl)) rfl
theorem d_J6_bitCount_0f7a4_7 : decode mJ6_bitCount_0f7a4.2.2.1 7 = .ok (.iand, 1) := by decide +kernel
theorem d_J6_bitCount_0f7a4_8 : decode mJ6_bitCount_0f7a4.2.2.1 8 = .ok (.isub, 1) := by decide +kernel
theorem d_J6_bitCount_0f7a4_9 : decode mJ6_bitCount_0f7a4.2.2.1 9 = .ok (.istore_n 0, 1) := by decide +kernel
theorem d_J6_bitCount_0f7a4_10 : decode mJ6_bitCount_0f7a4.2.2.1 10 = .ok (.iload_n 0, 1) := by decide +kernel
theorem d_J6_bitCount_0f7a4_11 : decode mJ6_bitCount_0f7a4.2.2.1 11 = .ok (.ldc_w 266, 3) := by decide +kernel
theorem k_18_266 : Jvm.Cond.constant (e_cn 18) 266 (Int32.ofInt 858993459) ∈ tblG := tblG_in (inT6 (List.mem_of_getElem? (i := 36) rfl)) rfl
theorem d_J6_bitCount_0f7a4_14 : decode mJ6_bitCount_0f7a4.2.2.1 14 = .ok (.iand, 1) := by decide +kernel
theorem d_J6_bitCount_0f7a4_15 : decode mJ6_bitCount_0f7a4.2.2.1 15 = .ok (.iload_n 0, 1) := by decide +kernel
theorem d_J6_bitCount_0f7a4_16 : decode mJ6_bitCount_0f7a4.2.2.1 16 = .ok (.iconst 2, 1) := by decide +kernel
theorem d_J6_bitCount_0f7a4_17 : decode mJ6_bitCount_0f7a4.2.2.1 17 = .ok (.iushr, 1) := by decide +kernel
theorem d_J6_bitCount_0f7a4_18 : decode mJ6_bitCount_0f7a4.2.2.1 18 = .ok (.ldc_w 266, 3) := by decide +kernel
theorem d_J6_bitCount_0f7a4_21 : decode mJ6_bitCount_0f7a4.2.2.1 21 = .ok (.iand, 1) := by decide +kernel
theorem d_J6_bitCount_0f7a4_22 : decode mJ6_bitCount_0f7a4.2.2.1 22 = .ok (.iadd, 1) := by decide +kernel
theorem d_J6_bitCount_0f7a4_23 : decode mJ6_bitCount_0f7a4.2.2.1 23 = .ok (.istore_n 0, 1) := by decide +kernel
theorem d_J6_bitCount_0f7a4_24 : decode mJ6_bitCount_0f7a4.2.2.1 24 = .ok (.iload_n 0, 1) := by decide +kernel
theorem d_J6_bitCount_0f7a4_25 : decode mJ6_bitCount_0f7a4.2.2.1 25 = .ok (.iload_n 0, 1) := by decide +kernel
theorem d_J6_bitCount_0f7a4_26 : decode mJ6_bitCount_0f7a4.2.2.1 26 = .ok (.iconst 4, 1) := by decide +kernel
theorem d_J6_bitCount_0f7a4_27 : decode mJ6_bitCount_0f7a4.2.2.1 27 = .ok (.iushr, 1) := by decide +kernel
theorem d_J6_bitCount_0f7a4_28 : decode mJ6_bitCount_0f7a4.2.2.1 28 = .ok (.iadd, 1) := by decide +kernel
theorem d_J6_bitCount_0f7a4_29 : decode mJ6_bitCount_0f7a4.2.2.1 29 = .ok (.ldc_w 267, 3) := by decide +kernel
theorem k_18_267 : Jvm.Cond.constant (e_cn 18) 267 (Int32.ofInt 252645135) ∈ tblG := tblG_in (inT6 (List.mem_of_getElem? (i := 37) rfl)) rfl
theorem d_J6_bitCount_0f7a4_32 : decode mJ6_bitCount_0f7a4.2.2.1 32 = .ok (.iand, 1) := by decide +kernel
theorem d_J6_bitCount_0f7a4_33 : decode mJ6_bitCount_0f7a4.2.2.1 33 = .ok (.istore_n 0, 1) := by decide +kernel
theorem d_J6_bitCount_0f7a4_34 : decode mJ6_bitCount_0f7a4.2.2.1 34 = .ok (.iload_n 0, 1) := by decide +kernel
theorem d_J6_bitCount_0f7a4_35 : decode mJ6_bitCount_0f7a4.2.2.1 35 = .ok (.iload_n 0, 1) := by decide +kernel
theorem d_J6_bitCount_0f7a4_36 : decode mJ6_bitCount_0f7a4.2.2.1 36 = .ok (.bipush 8, 2) := by decide +kernel
theorem d_J6_bitCount_0f7a4_38 : decode mJ6_bitCount_0f7a4.2.2.1 38 = .ok (.iushr, 1) := by decide +kernel
theorem d_J6_bitCount_0f7a4_39 : decode mJ6_bitCount_0f7a4.2.2.1 39 = .ok (.iadd, 1) := by decide +kernel
theorem d_J6_bitCount_0f7a4_40 : decode mJ6_bitCount_0f7a4.2.2.1 40 = .ok (.istore_n 0, 1) := by decide +kernel
theorem d_J6_bitCount_0f7a4_41 : decode mJ6_bitCount_0f7a4.2.2.1 41 = .ok (.iload_n 0, 1) := by decide +kernel
theorem d_J6_bitCount_0f7a4_42 : decode mJ6_bitCount_0f7a4.2.2.1 42 = .ok (.iload_n 0, 1) := by decide +kernel
theorem d_J6_bitCount_0f7a4_43 : decode mJ6_bitCount_0f7a4.2.2.1 43 = .ok (.bipush 16, 2) := by decide +kernel
theorem d_J6_bitCount_0f7a4_45 : decode mJ6_bitCount_0f7a4.2.2.1 45 = .ok (.iushr, 1) := by decide +kernel
theorem d_J6_bitCount_0f7a4_46 : decode mJ6_bitCount_0f7a4.2.2.1 46 = .ok (.iadd, 1) := by decide +kernel
theorem d_J6_bitCount_0f7a4_47 : decode mJ6_bitCount_0f7a4.2.2.1 47 = .ok (.istore_n 0, 1) := by decide +kernel
theorem d_J6_bitCount_0f7a4_48 : decode mJ6_bitCount_0f7a4.2.2.1 48 = .ok (.iload_n 0, 1) := by decide +kernel
theorem d_J6_bitCount_0f7a4_49 : decode mJ6_bitCount_0f7a4.2.2.1 49 = .ok (.bipush 63, 2) := by decide +kernel
theorem d_J6_bitCount_0f7a4_51 : decode mJ6_bitCount_0f7a4.2.2.1 51 = .ok (.iand, 1) := by decide +kernel
theorem d_J6_bitCount_0f7a4_52 : decode mJ6_bitCount_0f7a4.2.2.1 52 = .ok (.ireturn, 1) := by decide +kernel
theorem ini_18 : Cond.initialized "java/lang/Integer" ∈ tblG := tblG_in (inT1 (List.mem_of_getElem? (i := 23) rfl)) rfl
theorem ok_J6_bitCount_0f7a4 : e_m mJ6_bitCount_0f7a4 1 := ⟨tblG_in (inT6 (List.mem_of_getElem? (i := 34) rfl)) rfl, plainFor_of_name (by decide), rfl, ini_18, by decide +kernel, by decide⟩
theorem d_X9_share_57 : decode mX9_share.2.2.1 57 = .ok (.istore 8, 2) := by decide +kernel
theorem d_X9_share_59 : decode mX9_share.2.2.1 59 = .ok (.getstatic 104, 3) := by decide +kernel
theorem sl_9_104 : Cond.fieldLink (e_cn 9) 104 "SipMeter$Turns" "FACTORIALS" "[I" ∈ tblG := tblG_in (inT6 (List.mem_of_getElem? (i := 38) rfl)) rfl
theorem d_X9_share_62 : decode mX9_share.2.2.1 62 = .ok (.iload 8, 2) := by decide +kernel
theorem d_X9_share_64 : decode mX9_share.2.2.1 64 = .ok (.iaload, 1) := by decide +kernel
theorem d_X9_share_65 : decode mX9_share.2.2.1 65 = .ok (.i2l, 1) := by decide +kernel
theorem d_X9_share_66 : decode mX9_share.2.2.1 66 = .ok (.getstatic 104, 3) := by decide +kernel
theorem d_X9_share_69 : decode mX9_share.2.2.1 69 = .ok (.iload_n 3, 1) := by decide +kernel
theorem d_X9_share_70 : decode mX9_share.2.2.1 70 = .ok (.iconst 1, 1) := by decide +kernel
theorem d_X9_share_71 : decode mX9_share.2.2.1 71 = .ok (.isub, 1) := by decide +kernel
theorem d_X9_share_72 : decode mX9_share.2.2.1 72 = .ok (.iload 8, 2) := by decide +kernel
theorem d_X9_share_74 : decode mX9_share.2.2.1 74 = .ok (.isub, 1) := by decide +kernel
theorem d_X9_share_75 : decode mX9_share.2.2.1 75 = .ok (.iaload, 1) := by decide +kernel
theorem d_X9_share_76 : decode mX9_share.2.2.1 76 = .ok (.i2l, 1) := by decide +kernel
theorem d_X9_share_77 : decode mX9_share.2.2.1 77 = .ok (.lmul, 1) := by decide +kernel
theorem d_X9_share_78 : decode mX9_share.2.2.1 78 = .ok (.lstore 9, 2) := by decide +kernel
theorem d_X9_share_80 : decode mX9_share.2.2.1 80 = .ok (.lload 5, 2) := by decide +kernel
theorem d_X9_share_82 : decode mX9_share.2.2.1 82 = .ok (.lload 9, 2) := by decide +kernel
theorem d_X9_share_84 : decode mX9_share.2.2.1 84 = .ok (.aload_n 0, 1) := by decide +kernel
theorem d_X9_share_85 : decode mX9_share.2.2.1 85 = .ok (.getfield 11, 3) := by decide +kernel
theorem d_X9_share_88 : decode mX9_share.2.2.1 88 = .ok (.iload 7, 2) := by decide +kernel
theorem d_X9_share_90 : decode mX9_share.2.2.1 90 = .ok (.iload 4, 2) := by decide +kernel
theorem d_X9_share_92 : decode mX9_share.2.2.1 92 = .ok (.ior, 1) := by decide +kernel
theorem d_X9_share_93 : decode mX9_share.2.2.1 93 = .ok (.laload, 1) := by decide +kernel
theorem d_X9_share_94 : decode mX9_share.2.2.1 94 = .ok (.aload_n 0, 1) := by decide +kernel
theorem d_X9_share_95 : decode mX9_share.2.2.1 95 = .ok (.getfield 11, 3) := by decide +kernel
theorem d_X9_share_98 : decode mX9_share.2.2.1 98 = .ok (.iload 7, 2) := by decide +kernel
theorem d_X9_share_100 : decode mX9_share.2.2.1 100 = .ok (.laload, 1) := by decide +kernel
theorem d_X9_share_101 : decode mX9_share.2.2.1 101 = .ok (.lsub, 1) := by decide +kernel
theorem d_X9_share_102 : decode mX9_share.2.2.1 102 = .ok (.lmul, 1) := by decide +kernel
theorem d_X9_share_103 : decode mX9_share.2.2.1 103 = .ok (.ladd, 1) := by decide +kernel
theorem d_X9_share_104 : decode mX9_share.2.2.1 104 = .ok (.lstore 5, 2) := by decide +kernel
theorem d_X9_share_106 : decode mX9_share.2.2.1 106 = .ok (.iinc 7 1, 3) := by decide +kernel
theorem d_X9_share_109 : decode mX9_share.2.2.1 109 = .ok (.goto (-73), 3) := by decide +kernel
theorem d_X9_share_112 : decode mX9_share.2.2.1 112 = .ok (.lload 5, 2) := by decide +kernel
theorem d_X9_share_114 : decode mX9_share.2.2.1 114 = .ok (.invokestatic 107, 3) := by decide +kernel
def mJ9_abs_067f4 : MD := (15, yJ9_abs_067f4, cJ9_abs_067f4, 2, some .long)
theorem s_9_107 : e_siteS 9 107 mJ9_abs_067f4 := ⟨tblG_in (inT6 (List.mem_of_getElem? (i := 40) rfl)) rfl, tblG_in (inT6 (List.mem_of_getElem? (i := 41) rfl)) rfl⟩
theorem d_J9_abs_067f4_0 : decode mJ9_abs_067f4.2.2.1 0 = .ok (.lload_n 0, 1) := by decide +kernel
theorem d_J9_abs_067f4_1 : decode mJ9_abs_067f4.2.2.1 1 = .ok (.lconst 0, 1) := by decide +kernel
theorem d_J9_abs_067f4_2 : decode mJ9_abs_067f4.2.2.1 2 = .ok (.lcmp, 1) := by decide +kernel
theorem d_J9_abs_067f4_3 : decode mJ9_abs_067f4.2.2.1 3 = .ok (.ifCond .ge 8, 3) := by decide +kernel
theorem d_J9_abs_067f4_11 : decode mJ9_abs_067f4.2.2.1 11 = .ok (.lload_n 0, 1) := by decide +kernel
theorem d_J9_abs_067f4_12 : decode mJ9_abs_067f4.2.2.1 12 = .ok (.lreturn, 1) := by decide +kernel
theorem d_J9_abs_067f4_6 : decode mJ9_abs_067f4.2.2.1 6 = .ok (.lload_n 0, 1) := by decide +kernel
theorem d_J9_abs_067f4_7 : decode mJ9_abs_067f4.2.2.1 7 = .ok (.lneg, 1) := by decide +kernel
theorem d_J9_abs_067f4_8 : decode mJ9_abs_067f4.2.2.1 8 = .ok (.goto 4, 3) := by decide +kernel
theorem ok_J9_abs_067f4 : e_m mJ9_abs_067f4 1 := ⟨tblG_in (inT6 (List.mem_of_getElem? (i := 42) rfl)) rfl, by decide +kernel, rfl, ini_15, by decide +kernel, by decide⟩
theorem d_X9_share_117 : decode mX9_share.2.2.1 117 = .ok (.getstatic 104, 3) := by decide +kernel
theorem d_X9_share_120 : decode mX9_share.2.2.1 120 = .ok (.iload_n 3, 1) := by decide +kernel
theorem d_X9_share_121 : decode mX9_share.2.2.1 121 = .ok (.iaload, 1) := by decide +kernel
theorem d_X9_share_122 : decode mX9_share.2.2.1 122 = .ok (.i2l, 1) := by decide +kernel
theorem d_X9_share_123 : decode mX9_share.2.2.1 123 = .ok (.invokestatic 111, 3) := by decide +kernel
def mX9_commonDivisor : MD := (9, yX9_commonDivisor, cX9_commonDivisor, 11, some .long)
theorem s_9_111 : e_siteS 9 111 mX9_commonDivisor := ⟨tblG_in (inT6 (List.mem_of_getElem? (i := 43) rfl)) rfl, tblG_in (inT6 (List.mem_of_getElem? (i := 44) rfl)) rfl⟩
theorem d_X9_commonDivisor_0 : decode mX9_commonDivisor.2.2.1 0 = .ok (.lload_n 0, 1) := by decide +kernel
theorem d_X9_commonDivisor_1 : decode mX9_commonDivisor.2.2.1 1 = .ok (.lstore 4, 2) := by decide +kernel
theorem d_X9_commonDivisor_3 : decode mX9_commonDivisor.2.2.1 3 = .ok (.lload_n 2, 1) := by decide +kernel
theorem d_X9_commonDivisor_4 : decode mX9_commonDivisor.2.2.1 4 = .ok (.lstore 6, 2) := by decide +kernel
theorem d_X9_commonDivisor_6 : decode mX9_commonDivisor.2.2.1 6 = .ok (.iconst 0, 1) := by decide +kernel
theorem d_X9_commonDivisor_7 : decode mX9_commonDivisor.2.2.1 7 = .ok (.istore 8, 2) := by decide +kernel
theorem d_X9_commonDivisor_9 : decode mX9_commonDivisor.2.2.1 9 = .ok (.iload 8, 2) := by decide +kernel
theorem d_X9_commonDivisor_11 : decode mX9_commonDivisor.2.2.1 11 = .ok (.sipush 200, 3) := by decide +kernel
theorem d_X9_commonDivisor_14 : decode mX9_commonDivisor.2.2.1 14 = .ok (.if_icmp .ge 31, 3) := by decide +kernel
theorem d_X9_commonDivisor_17 : decode mX9_commonDivisor.2.2.1 17 = .ok (.lload 6, 2) := by decide +kernel
theorem d_X9_commonDivisor_19 : decode mX9_commonDivisor.2.2.1 19 = .ok (.lconst 0, 1) := by decide +kernel
theorem d_X9_commonDivisor_20 : decode mX9_commonDivisor.2.2.1 20 = .ok (.lcmp, 1) := by decide +kernel
theorem d_X9_commonDivisor_21 : decode mX9_commonDivisor.2.2.1 21 = .ok (.ifCond .eq 24, 3) := by decide +kernel
theorem d_X9_commonDivisor_45 : decode mX9_commonDivisor.2.2.1 45 = .ok (.lload 4, 2) := by decide +kernel
theorem d_X9_commonDivisor_47 : decode mX9_commonDivisor.2.2.1 47 = .ok (.lreturn, 1) := by decide +kernel
theorem d_X9_commonDivisor_24 : decode mX9_commonDivisor.2.2.1 24 = .ok (.lload 4, 2) := by decide +kernel
theorem d_X9_commonDivisor_26 : decode mX9_commonDivisor.2.2.1 26 = .ok (.lload 6, 2) := by decide +kernel
theorem d_X9_commonDivisor_28 : decode mX9_commonDivisor.2.2.1 28 = .ok (.lrem, 1) := by decide +kernel
theorem d_X9_commonDivisor_29 : decode mX9_commonDivisor.2.2.1 29 = .ok (.lstore 9, 2) := by decide +kernel
theorem d_X9_commonDivisor_31 : decode mX9_commonDivisor.2.2.1 31 = .ok (.lload 6, 2) := by decide +kernel
theorem d_X9_commonDivisor_33 : decode mX9_commonDivisor.2.2.1 33 = .ok (.lstore 4, 2) := by decide +kernel
theorem d_X9_commonDivisor_35 : decode mX9_commonDivisor.2.2.1 35 = .ok (.lload 9, 2) := by decide +kernel
theorem d_X9_commonDivisor_37 : decode mX9_commonDivisor.2.2.1 37 = .ok (.lstore 6, 2) := by decide +kernel
theorem d_X9_commonDivisor_39 : decode mX9_commonDivisor.2.2.1 39 = .ok (.iinc 8 1, 3) := by decide +kernel
theorem d_X9_commonDivisor_42 : decode mX9_commonDivisor.2.2.1 42 = .ok (.goto (-33), 3) := by decide +kernel
theorem ok_X9_commonDivisor : e_m mX9_commonDivisor 2 := ⟨tblG_in (inT6 (List.mem_of_getElem? (i := 45) rfl)) rfl, plainFor_of_name (by decide), rfl, ini_9, by decide +kernel, by decide⟩
theorem d_X9_share_126 : decode mX9_share.2.2.1 126 = .ok (.lstore 7, 2) := by decide +kernel
theorem d_X9_share_128 : decode mX9_share.2.2.1 128 = .ok (.lload 7, 2) := by decide +kernel
theorem d_X9_share_130 : decode mX9_share.2.2.1 130 = .ok (.lconst 0, 1) := by decide +kernel
theorem d_X9_share_131 : decode mX9_share.2.2.1 131 = .ok (.lcmp, 1) := by decide +kernel
theorem d_X9_share_132 : decode mX9_share.2.2.1 132 = .ok (.ifCond .ne 7, 3) := by decide +kernel
theorem d_X9_share_139 : decode mX9_share.2.2.1 139 = .ok (.iload_n 2, 1) := by decide +kernel
theorem d_X9_share_140 : decode mX9_share.2.2.1 140 = .ok (.ifCond .eq 8, 3) := by decide +kernel
theorem d_X9_share_148 : decode mX9_share.2.2.1 148 = .ok (.getstatic 104, 3) := by decide +kernel
theorem d_X9_share_151 : decode mX9_share.2.2.1 151 = .ok (.iload_n 3, 1) := by decide +kernel
theorem d_X9_share_152 : decode mX9_share.2.2.1 152 = .ok (.iaload, 1) := by decide +kernel
theorem d_X9_share_153 : decode mX9_share.2.2.1 153 = .ok (.i2l, 1) := by decide +kernel
theorem d_X9_share_154 : decode mX9_share.2.2.1 154 = .ok (.lload 7, 2) := by decide +kernel
theorem d_X9_share_156 : decode mX9_share.2.2.1 156 = .ok (.ldiv, 1) := by decide +kernel
theorem d_X9_share_157 : decode mX9_share.2.2.1 157 = .ok (.lreturn, 1) := by decide +kernel
theorem d_X9_share_143 : decode mX9_share.2.2.1 143 = .ok (.lload 5, 2) := by decide +kernel
