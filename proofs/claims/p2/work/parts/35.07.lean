theorem d_X12_joined_125 : decode mX12_joined.2.2.1 125 = .ok (.lload_n 1, 1) := by decide +kernel
theorem d_X12_joined_126 : decode mX12_joined.2.2.1 126 = .ok (.goto 4, 3) := by decide +kernel
theorem d_X12_joined_107 : decode mX12_joined.2.2.1 107 = .ok (.lload_n 1, 1) := by decide +kernel
theorem d_X12_joined_108 : decode mX12_joined.2.2.1 108 = .ok (.lload_n 3, 1) := by decide +kernel
theorem d_X12_joined_109 : decode mX12_joined.2.2.1 109 = .ok (.lcmp, 1) := by decide +kernel
theorem d_X12_joined_110 : decode mX12_joined.2.2.1 110 = .ok (.ifCond .ge 7, 3) := by decide +kernel
theorem d_X12_joined_117 : decode mX12_joined.2.2.1 117 = .ok (.lload_n 3, 1) := by decide +kernel
theorem d_X12_joined_118 : decode mX12_joined.2.2.1 118 = .ok (.lreturn, 1) := by decide +kernel
theorem d_X12_joined_113 : decode mX12_joined.2.2.1 113 = .ok (.lload_n 1, 1) := by decide +kernel
theorem d_X12_joined_114 : decode mX12_joined.2.2.1 114 = .ok (.goto 4, 3) := by decide +kernel
theorem d_X12_joined_87 : decode mX12_joined.2.2.1 87 = .ok (.lload_n 3, 1) := by decide +kernel
theorem d_X12_joined_88 : decode mX12_joined.2.2.1 88 = .ok (.lconst 0, 1) := by decide +kernel
theorem d_X12_joined_89 : decode mX12_joined.2.2.1 89 = .ok (.lcmp, 1) := by decide +kernel
theorem d_X12_joined_90 : decode mX12_joined.2.2.1 90 = .ok (.ifCond .ne 7, 3) := by decide +kernel
theorem d_X12_joined_97 : decode mX12_joined.2.2.1 97 = .ok (.lload_n 1, 1) := by decide +kernel
theorem d_X12_joined_98 : decode mX12_joined.2.2.1 98 = .ok (.lload_n 3, 1) := by decide +kernel
theorem d_X12_joined_99 : decode mX12_joined.2.2.1 99 = .ok (.lload_n 1, 1) := by decide +kernel
theorem d_X12_joined_100 : decode mX12_joined.2.2.1 100 = .ok (.lload_n 3, 1) := by decide +kernel
theorem d_X12_joined_101 : decode mX12_joined.2.2.1 101 = .ok (.invokestatic 602, 3) := by decide +kernel
def mX12_floor : MD := (12, yX12_floor, cX12_floor, 6, some .long)
theorem s_12_602 : e_siteS 12 602 mX12_floor := ⟨tblG_in (inT9 (List.mem_of_getElem? (i := 90) rfl)) rfl, tblG_in (inT9 (List.mem_of_getElem? (i := 91) rfl)) rfl⟩
theorem d_X12_floor_0 : decode mX12_floor.2.2.1 0 = .ok (.lload_n 2, 1) := by decide +kernel
theorem d_X12_floor_1 : decode mX12_floor.2.2.1 1 = .ok (.lconst 0, 1) := by decide +kernel
theorem d_X12_floor_2 : decode mX12_floor.2.2.1 2 = .ok (.lcmp, 1) := by decide +kernel
theorem d_X12_floor_3 : decode mX12_floor.2.2.1 3 = .ok (.ifCond .ne 5, 3) := by decide +kernel
theorem d_X12_floor_8 : decode mX12_floor.2.2.1 8 = .ok (.lload_n 0, 1) := by decide +kernel
theorem d_X12_floor_9 : decode mX12_floor.2.2.1 9 = .ok (.lload_n 2, 1) := by decide +kernel
theorem d_X12_floor_10 : decode mX12_floor.2.2.1 10 = .ok (.ldiv, 1) := by decide +kernel
theorem d_X12_floor_11 : decode mX12_floor.2.2.1 11 = .ok (.lstore 4, 2) := by decide +kernel
theorem d_X12_floor_13 : decode mX12_floor.2.2.1 13 = .ok (.lload_n 0, 1) := by decide +kernel
theorem d_X12_floor_14 : decode mX12_floor.2.2.1 14 = .ok (.lload_n 2, 1) := by decide +kernel
theorem d_X12_floor_15 : decode mX12_floor.2.2.1 15 = .ok (.lrem, 1) := by decide +kernel
theorem d_X12_floor_16 : decode mX12_floor.2.2.1 16 = .ok (.lconst 0, 1) := by decide +kernel
theorem d_X12_floor_17 : decode mX12_floor.2.2.1 17 = .ok (.lcmp, 1) := by decide +kernel
theorem d_X12_floor_18 : decode mX12_floor.2.2.1 18 = .ok (.ifCond .eq 35, 3) := by decide +kernel
theorem d_X12_floor_53 : decode mX12_floor.2.2.1 53 = .ok (.lload 4, 2) := by decide +kernel
theorem d_X12_floor_55 : decode mX12_floor.2.2.1 55 = .ok (.lreturn, 1) := by decide +kernel
theorem d_X12_floor_21 : decode mX12_floor.2.2.1 21 = .ok (.lload_n 0, 1) := by decide +kernel
theorem d_X12_floor_22 : decode mX12_floor.2.2.1 22 = .ok (.lconst 0, 1) := by decide +kernel
theorem d_X12_floor_23 : decode mX12_floor.2.2.1 23 = .ok (.lcmp, 1) := by decide +kernel
theorem d_X12_floor_24 : decode mX12_floor.2.2.1 24 = .ok (.ifCond .ge 7, 3) := by decide +kernel
theorem d_X12_floor_31 : decode mX12_floor.2.2.1 31 = .ok (.iconst 0, 1) := by decide +kernel
theorem d_X12_floor_27 : decode mX12_floor.2.2.1 27 = .ok (.iconst 1, 1) := by decide +kernel
theorem d_X12_floor_28 : decode mX12_floor.2.2.1 28 = .ok (.goto 4, 3) := by decide +kernel
theorem d_X12_floor_6 : decode mX12_floor.2.2.1 6 = .ok (.lconst 0, 1) := by decide +kernel
theorem d_X12_floor_7 : decode mX12_floor.2.2.1 7 = .ok (.lreturn, 1) := by decide +kernel
theorem d_X12_floor_32 : decode mX12_floor.2.2.1 32 = .ok (.lload_n 2, 1) := by decide +kernel
theorem d_X12_floor_33 : decode mX12_floor.2.2.1 33 = .ok (.lconst 0, 1) := by decide +kernel
theorem d_X12_floor_34 : decode mX12_floor.2.2.1 34 = .ok (.lcmp, 1) := by decide +kernel
theorem d_X12_floor_35 : decode mX12_floor.2.2.1 35 = .ok (.ifCond .ge 7, 3) := by decide +kernel
theorem d_X12_floor_42 : decode mX12_floor.2.2.1 42 = .ok (.iconst 0, 1) := by decide +kernel
theorem d_X12_floor_38 : decode mX12_floor.2.2.1 38 = .ok (.iconst 1, 1) := by decide +kernel
theorem d_X12_floor_39 : decode mX12_floor.2.2.1 39 = .ok (.goto 4, 3) := by decide +kernel
theorem d_X12_floor_43 : decode mX12_floor.2.2.1 43 = .ok (.if_icmp .eq 10, 3) := by decide +kernel
theorem d_X12_floor_46 : decode mX12_floor.2.2.1 46 = .ok (.lload 4, 2) := by decide +kernel
theorem d_X12_floor_48 : decode mX12_floor.2.2.1 48 = .ok (.lconst 1, 1) := by decide +kernel
theorem d_X12_floor_49 : decode mX12_floor.2.2.1 49 = .ok (.lsub, 1) := by decide +kernel
theorem d_X12_floor_50 : decode mX12_floor.2.2.1 50 = .ok (.goto 5, 3) := by decide +kernel
theorem ok_X12_floor : e_m mX12_floor 2 := ⟨tblG_in (inT9 (List.mem_of_getElem? (i := 92) rfl)) rfl, plainFor_of_name (by decide), rfl, ini_12, by decide +kernel, by decide⟩
theorem d_X12_joined_104 : decode mX12_joined.2.2.1 104 = .ok (.lmul, 1) := by decide +kernel
theorem d_X12_joined_105 : decode mX12_joined.2.2.1 105 = .ok (.lsub, 1) := by decide +kernel
theorem d_X12_joined_106 : decode mX12_joined.2.2.1 106 = .ok (.lreturn, 1) := by decide +kernel
theorem d_X12_joined_93 : decode mX12_joined.2.2.1 93 = .ok (.lconst 0, 1) := by decide +kernel
theorem d_X12_joined_94 : decode mX12_joined.2.2.1 94 = .ok (.goto 12, 3) := by decide +kernel
theorem d_X12_joined_81 : decode mX12_joined.2.2.1 81 = .ok (.lload_n 1, 1) := by decide +kernel
theorem d_X12_joined_82 : decode mX12_joined.2.2.1 82 = .ok (.lload_n 3, 1) := by decide +kernel
theorem d_X12_joined_83 : decode mX12_joined.2.2.1 83 = .ok (.invokestatic 602, 3) := by decide +kernel
theorem d_X12_joined_86 : decode mX12_joined.2.2.1 86 = .ok (.lreturn, 1) := by decide +kernel
theorem d_X12_joined_74 : decode mX12_joined.2.2.1 74 = .ok (.lload_n 1, 1) := by decide +kernel
theorem d_X12_joined_75 : decode mX12_joined.2.2.1 75 = .ok (.lload_n 3, 1) := by decide +kernel
theorem d_X12_joined_76 : decode mX12_joined.2.2.1 76 = .ok (.lmul, 1) := by decide +kernel
theorem d_X12_joined_77 : decode mX12_joined.2.2.1 77 = .ok (.invokestatic 598, 3) := by decide +kernel
def mX12_held : MD := (12, yX12_held, cX12_held, 2, some .long)
theorem s_12_598 : e_siteS 12 598 mX12_held := ⟨tblG_in (inT9 (List.mem_of_getElem? (i := 85) rfl)) rfl, tblG_in (inT9 (List.mem_of_getElem? (i := 86) rfl)) rfl⟩
theorem d_X12_held_0 : decode mX12_held.2.2.1 0 = .ok (.lload_n 0, 1) := by decide +kernel
theorem d_X12_held_1 : decode mX12_held.2.2.1 1 = .ok (.ldc2_w 594, 3) := by decide +kernel
theorem kl_12_594 : Jvm.Cond.constantLong (e_cn 12) 594 (Int64.ofInt 1000000) ∈ tblG := tblG_in (inT9 (List.mem_of_getElem? (i := 88) rfl)) rfl
theorem d_X12_held_4 : decode mX12_held.2.2.1 4 = .ok (.lcmp, 1) := by decide +kernel
theorem d_X12_held_5 : decode mX12_held.2.2.1 5 = .ok (.ifCond .le 9, 3) := by decide +kernel
theorem d_X12_held_14 : decode mX12_held.2.2.1 14 = .ok (.lload_n 0, 1) := by decide +kernel
theorem d_X12_held_15 : decode mX12_held.2.2.1 15 = .ok (.ldc2_w 596, 3) := by decide +kernel
theorem kl_12_596 : Jvm.Cond.constantLong (e_cn 12) 596 (Int64.ofInt (-1000000)) ∈ tblG := tblG_in (inT9 (List.mem_of_getElem? (i := 89) rfl)) rfl
theorem d_X12_held_18 : decode mX12_held.2.2.1 18 = .ok (.lcmp, 1) := by decide +kernel
theorem d_X12_held_19 : decode mX12_held.2.2.1 19 = .ok (.ifCond .ge 9, 3) := by decide +kernel
theorem d_X12_held_28 : decode mX12_held.2.2.1 28 = .ok (.lload_n 0, 1) := by decide +kernel
theorem d_X12_held_29 : decode mX12_held.2.2.1 29 = .ok (.lreturn, 1) := by decide +kernel
theorem d_X12_held_22 : decode mX12_held.2.2.1 22 = .ok (.ldc2_w 596, 3) := by decide +kernel
theorem d_X12_held_25 : decode mX12_held.2.2.1 25 = .ok (.goto 4, 3) := by decide +kernel
theorem d_X12_held_8 : decode mX12_held.2.2.1 8 = .ok (.ldc2_w 594, 3) := by decide +kernel
theorem d_X12_held_11 : decode mX12_held.2.2.1 11 = .ok (.goto 18, 3) := by decide +kernel
theorem ok_X12_held : e_m mX12_held 1 := ⟨tblG_in (inT9 (List.mem_of_getElem? (i := 87) rfl)) rfl, plainFor_of_name (by decide), rfl, ini_12, by decide +kernel, by decide⟩
theorem d_X12_joined_80 : decode mX12_joined.2.2.1 80 = .ok (.lreturn, 1) := by decide +kernel
theorem d_X12_joined_67 : decode mX12_joined.2.2.1 67 = .ok (.lload_n 1, 1) := by decide +kernel
theorem d_X12_joined_68 : decode mX12_joined.2.2.1 68 = .ok (.lload_n 3, 1) := by decide +kernel
theorem d_X12_joined_69 : decode mX12_joined.2.2.1 69 = .ok (.lsub, 1) := by decide +kernel
theorem d_X12_joined_70 : decode mX12_joined.2.2.1 70 = .ok (.invokestatic 598, 3) := by decide +kernel
theorem d_X12_joined_73 : decode mX12_joined.2.2.1 73 = .ok (.lreturn, 1) := by decide +kernel
theorem d_X12_joined_60 : decode mX12_joined.2.2.1 60 = .ok (.lload_n 1, 1) := by decide +kernel
theorem d_X12_joined_61 : decode mX12_joined.2.2.1 61 = .ok (.lload_n 3, 1) := by decide +kernel
theorem d_X12_joined_62 : decode mX12_joined.2.2.1 62 = .ok (.ladd, 1) := by decide +kernel
theorem d_X12_joined_63 : decode mX12_joined.2.2.1 63 = .ok (.invokestatic 598, 3) := by decide +kernel
theorem d_X12_joined_66 : decode mX12_joined.2.2.1 66 = .ok (.lreturn, 1) := by decide +kernel
theorem ok_X12_joined : e_m mX12_joined 3 := ⟨tblG_in (inT9 (List.mem_of_getElem? (i := 84) rfl)) rfl, plainFor_of_name (by decide), rfl, ini_12, by decide +kernel, by decide⟩
theorem d_X12_works_132 : decode mX12_works.2.2.1 132 = .ok (.lastore, 1) := by decide +kernel
theorem d_X12_works_82 : decode mX12_works.2.2.1 82 = .ok (.aload_n 0, 1) := by decide +kernel
theorem d_X12_works_83 : decode mX12_works.2.2.1 83 = .ok (.getfield 264, 3) := by decide +kernel
theorem d_X12_works_86 : decode mX12_works.2.2.1 86 = .ok (.iload_n 2, 1) := by decide +kernel
theorem d_X12_works_87 : decode mX12_works.2.2.1 87 = .ok (.iconst 1, 1) := by decide +kernel
theorem d_X12_works_88 : decode mX12_works.2.2.1 88 = .ok (.isub, 1) := by decide +kernel
theorem d_X12_works_89 : decode mX12_works.2.2.1 89 = .ok (.lconst 1, 1) := by decide +kernel
theorem d_X12_works_90 : decode mX12_works.2.2.1 90 = .ok (.aload_n 0, 1) := by decide +kernel
theorem d_X12_works_91 : decode mX12_works.2.2.1 91 = .ok (.getfield 264, 3) := by decide +kernel
theorem d_X12_works_94 : decode mX12_works.2.2.1 94 = .ok (.iload_n 2, 1) := by decide +kernel
theorem d_X12_works_95 : decode mX12_works.2.2.1 95 = .ok (.iconst 1, 1) := by decide +kernel
theorem d_X12_works_96 : decode mX12_works.2.2.1 96 = .ok (.isub, 1) := by decide +kernel
theorem d_X12_works_97 : decode mX12_works.2.2.1 97 = .ok (.laload, 1) := by decide +kernel
theorem d_X12_works_98 : decode mX12_works.2.2.1 98 = .ok (.lsub, 1) := by decide +kernel
theorem d_X12_works_99 : decode mX12_works.2.2.1 99 = .ok (.lastore, 1) := by decide +kernel
theorem d_X12_works_100 : decode mX12_works.2.2.1 100 = .ok (.goto 33, 3) := by decide +kernel
theorem d_X12_works_51 : decode mX12_works.2.2.1 51 = .ok (.aload_n 0, 1) := by decide +kernel
theorem d_X12_works_52 : decode mX12_works.2.2.1 52 = .ok (.getfield 264, 3) := by decide +kernel
theorem d_X12_works_55 : decode mX12_works.2.2.1 55 = .ok (.iload_n 2, 1) := by decide +kernel
theorem d_X12_works_56 : decode mX12_works.2.2.1 56 = .ok (.aload_n 0, 1) := by decide +kernel
theorem d_X12_works_57 : decode mX12_works.2.2.1 57 = .ok (.iload 4, 2) := by decide +kernel
theorem d_X12_works_59 : decode mX12_works.2.2.1 59 = .ok (.aload_n 0, 1) := by decide +kernel
theorem d_X12_works_60 : decode mX12_works.2.2.1 60 = .ok (.getfield 118, 3) := by decide +kernel
theorem d_X12_works_63 : decode mX12_works.2.2.1 63 = .ok (.iload_n 3, 1) := by decide +kernel
theorem d_X12_works_64 : decode mX12_works.2.2.1 64 = .ok (.iaload, 1) := by decide +kernel
theorem d_X12_works_65 : decode mX12_works.2.2.1 65 = .ok (.invokevirtual 606, 3) := by decide +kernel
def mX12_leaf : MD := (12, yX12_leaf, cX12_leaf, 3, some .long)
theorem sel_X12_leaf : Cond.instanceMethod mX12_leaf.2.1 ∈ tblG ∧ Cond.selects mX12_leaf.2.1.cls mX12_leaf.2.1 mX12_leaf.2.1 ∈ tblG := ⟨tblG_in (inT9 (List.mem_of_getElem? (i := 80) rfl)) rfl, tblG_in (inP8 (q := (mX12_leaf.2.1, 121)) (List.mem_of_getElem? (i := 1) rfl)) rfl⟩
theorem s_12_606 : e_siteV 12 606 mX12_leaf 12 := ⟨tblG_in (inT9 (List.mem_of_getElem? (i := 78) rfl)) rfl, sel_X12_leaf.1, sel_X12_leaf.2, rfl⟩
theorem d_X12_leaf_0 : decode mX12_leaf.2.2.1 0 = .ok (.iload_n 1, 1) := by decide +kernel
theorem d_X12_leaf_1 : decode mX12_leaf.2.2.1 1 = .ok (.tableswitch 75 0 4 #[35, 38, 46, 54, 60], 35) := by decide +kernel
theorem d_X12_leaf_76 : decode mX12_leaf.2.2.1 76 = .ok (.lconst 1, 1) := by decide +kernel
theorem d_X12_leaf_77 : decode mX12_leaf.2.2.1 77 = .ok (.lreturn, 1) := by decide +kernel
theorem d_X12_leaf_61 : decode mX12_leaf.2.2.1 61 = .ok (.aload_n 0, 1) := by decide +kernel
theorem d_X12_leaf_62 : decode mX12_leaf.2.2.1 62 = .ok (.getfield 177, 3) := by decide +kernel
theorem d_X12_leaf_65 : decode mX12_leaf.2.2.1 65 = .ok (.iload_n 2, 1) := by decide +kernel
theorem d_X12_leaf_66 : decode mX12_leaf.2.2.1 66 = .ok (.baload, 1) := by decide +kernel
theorem d_X12_leaf_67 : decode mX12_leaf.2.2.1 67 = .ok (.ifCond .eq 7, 3) := by decide +kernel
theorem d_X12_leaf_74 : decode mX12_leaf.2.2.1 74 = .ok (.lconst 0, 1) := by decide +kernel
theorem d_X12_leaf_75 : decode mX12_leaf.2.2.1 75 = .ok (.lreturn, 1) := by decide +kernel
theorem d_X12_leaf_70 : decode mX12_leaf.2.2.1 70 = .ok (.lconst 1, 1) := by decide +kernel
theorem d_X12_leaf_71 : decode mX12_leaf.2.2.1 71 = .ok (.goto 4, 3) := by decide +kernel
theorem d_X12_leaf_55 : decode mX12_leaf.2.2.1 55 = .ok (.aload_n 0, 1) := by decide +kernel
theorem d_X12_leaf_56 : decode mX12_leaf.2.2.1 56 = .ok (.getfield 201, 3) := by decide +kernel
theorem d_X12_leaf_59 : decode mX12_leaf.2.2.1 59 = .ok (.i2l, 1) := by decide +kernel
theorem d_X12_leaf_60 : decode mX12_leaf.2.2.1 60 = .ok (.lreturn, 1) := by decide +kernel
theorem d_X12_leaf_47 : decode mX12_leaf.2.2.1 47 = .ok (.aload_n 0, 1) := by decide +kernel
theorem d_X12_leaf_48 : decode mX12_leaf.2.2.1 48 = .ok (.getfield 174, 3) := by decide +kernel
theorem d_X12_leaf_51 : decode mX12_leaf.2.2.1 51 = .ok (.iload_n 2, 1) := by decide +kernel
theorem d_X12_leaf_52 : decode mX12_leaf.2.2.1 52 = .ok (.iaload, 1) := by decide +kernel
theorem d_X12_leaf_53 : decode mX12_leaf.2.2.1 53 = .ok (.i2l, 1) := by decide +kernel
theorem d_X12_leaf_54 : decode mX12_leaf.2.2.1 54 = .ok (.lreturn, 1) := by decide +kernel
theorem d_X12_leaf_39 : decode mX12_leaf.2.2.1 39 = .ok (.aload_n 0, 1) := by decide +kernel
theorem d_X12_leaf_40 : decode mX12_leaf.2.2.1 40 = .ok (.getfield 171, 3) := by decide +kernel
theorem d_X12_leaf_43 : decode mX12_leaf.2.2.1 43 = .ok (.iload_n 2, 1) := by decide +kernel
theorem d_X12_leaf_44 : decode mX12_leaf.2.2.1 44 = .ok (.iaload, 1) := by decide +kernel
theorem d_X12_leaf_45 : decode mX12_leaf.2.2.1 45 = .ok (.i2l, 1) := by decide +kernel
theorem d_X12_leaf_46 : decode mX12_leaf.2.2.1 46 = .ok (.lreturn, 1) := by decide +kernel
theorem d_X12_leaf_36 : decode mX12_leaf.2.2.1 36 = .ok (.iload_n 2, 1) := by decide +kernel
theorem d_X12_leaf_37 : decode mX12_leaf.2.2.1 37 = .ok (.i2l, 1) := by decide +kernel
theorem d_X12_leaf_38 : decode mX12_leaf.2.2.1 38 = .ok (.lreturn, 1) := by decide +kernel
theorem ok_X12_leaf : e_m mX12_leaf 2 := ⟨tblG_in (inT9 (List.mem_of_getElem? (i := 81) rfl)) rfl, plainFor_of_name (by decide), rfl, ini_12, by decide +kernel, by decide⟩
theorem d_X12_works_68 : decode mX12_works.2.2.1 68 = .ok (.lastore, 1) := by decide +kernel
theorem d_X12_works_69 : decode mX12_works.2.2.1 69 = .ok (.iinc 2 1, 3) := by decide +kernel
theorem d_X12_works_72 : decode mX12_works.2.2.1 72 = .ok (.goto 61, 3) := by decide +kernel
theorem d_X12_works_133 : decode mX12_works.2.2.1 133 = .ok (.iinc 3 1, 3) := by decide +kernel
theorem d_X12_works_136 : decode mX12_works.2.2.1 136 = .ok (.goto (-118), 3) := by decide +kernel
theorem ok_X12_works : e_m mX12_works 1 := ⟨tblG_in (inT9 (List.mem_of_getElem? (i := 77) rfl)) rfl, plainFor_of_name (by decide), rfl, ini_12, by decide +kernel, by decide⟩
theorem d_X12_runs_269 : decode mX12_runs.2.2.1 269 = .ok (.lconst 0, 1) := by decide +kernel
theorem d_X12_runs_270 : decode mX12_runs.2.2.1 270 = .ok (.lcmp, 1) := by decide +kernel
theorem d_X12_runs_271 : decode mX12_runs.2.2.1 271 = .ok (.ifCond .ne 27, 3) := by decide +kernel
theorem d_X12_runs_274 : decode mX12_runs.2.2.1 274 = .ok (.aload_n 0, 1) := by decide +kernel
theorem d_X12_runs_275 : decode mX12_runs.2.2.1 275 = .ok (.getfield 112, 3) := by decide +kernel
theorem d_X12_runs_278 : decode mX12_runs.2.2.1 278 = .ok (.iload 4, 2) := by decide +kernel
theorem d_X12_runs_280 : decode mX12_runs.2.2.1 280 = .ok (.iaload, 1) := by decide +kernel
theorem d_X12_runs_281 : decode mX12_runs.2.2.1 281 = .ok (.istore_n 3, 1) := by decide +kernel
theorem d_X12_runs_282 : decode mX12_runs.2.2.1 282 = .ok (.goto 16, 3) := by decide +kernel
theorem d_X12_runs_285 : decode mX12_runs.2.2.1 285 = .ok (.iload 5, 2) := by decide +kernel
theorem d_X12_runs_287 : decode mX12_runs.2.2.1 287 = .ok (.ifCond .eq 11, 3) := by decide +kernel
theorem d_X12_runs_290 : decode mX12_runs.2.2.1 290 = .ok (.aload_n 0, 1) := by decide +kernel
theorem d_X12_runs_291 : decode mX12_runs.2.2.1 291 = .ok (.iload 4, 2) := by decide +kernel
theorem d_X12_runs_293 : decode mX12_runs.2.2.1 293 = .ok (.invokevirtual 635, 3) := by decide +kernel
def mX12_does : MD := (12, yX12_does, cX12_does, 6, some .boolean)
theorem sel_X12_does : Cond.instanceMethod mX12_does.2.1 ∈ tblG ∧ Cond.selects mX12_does.2.1.cls mX12_does.2.1 mX12_does.2.1 ∈ tblG := ⟨tblG_in (inT9 (List.mem_of_getElem? (i := 95) rfl)) rfl, tblG_in (inP8 (q := (mX12_does.2.1, 121)) (List.mem_of_getElem? (i := 2) rfl)) rfl⟩
theorem s_12_635 : e_siteV 12 635 mX12_does 12 := ⟨tblG_in (inT9 (List.mem_of_getElem? (i := 93) rfl)) rfl, sel_X12_does.1, sel_X12_does.2, rfl⟩
theorem d_X12_does_0 : decode mX12_does.2.2.1 0 = .ok (.aload_n 0, 1) := by decide +kernel
theorem d_X12_does_1 : decode mX12_does.2.2.1 1 = .ok (.getfield 100, 3) := by decide +kernel
theorem d_X12_does_4 : decode mX12_does.2.2.1 4 = .ok (.iload_n 1, 1) := by decide +kernel
theorem d_X12_does_5 : decode mX12_does.2.2.1 5 = .ok (.iaload, 1) := by decide +kernel
theorem d_X12_does_6 : decode mX12_does.2.2.1 6 = .ok (.istore_n 2, 1) := by decide +kernel
theorem d_X12_does_7 : decode mX12_does.2.2.1 7 = .ok (.aload_n 0, 1) := by decide +kernel
theorem d_X12_does_8 : decode mX12_does.2.2.1 8 = .ok (.getfield 103, 3) := by decide +kernel
theorem d_X12_does_11 : decode mX12_does.2.2.1 11 = .ok (.iload_n 1, 1) := by decide +kernel
theorem d_X12_does_12 : decode mX12_does.2.2.1 12 = .ok (.iaload, 1) := by decide +kernel
theorem d_X12_does_13 : decode mX12_does.2.2.1 13 = .ok (.istore_n 3, 1) := by decide +kernel
theorem d_X12_does_14 : decode mX12_does.2.2.1 14 = .ok (.aload_n 0, 1) := by decide +kernel
theorem d_X12_does_15 : decode mX12_does.2.2.1 15 = .ok (.getfield 97, 3) := by decide +kernel
theorem d_X12_does_18 : decode mX12_does.2.2.1 18 = .ok (.iload_n 1, 1) := by decide +kernel
theorem d_X12_does_19 : decode mX12_does.2.2.1 19 = .ok (.iaload, 1) := by decide +kernel
theorem d_X12_does_20 : decode mX12_does.2.2.1 20 = .ok (.tableswitch 102 1 5 #[36, 50, 67, 74, 82], 36) := by decide +kernel
theorem d_X12_does_122 : decode mX12_does.2.2.1 122 = .ok (.aload_n 0, 1) := by decide +kernel
theorem d_X12_does_123 : decode mX12_does.2.2.1 123 = .ok (.iload_n 1, 1) := by decide +kernel
theorem d_X12_does_124 : decode mX12_does.2.2.1 124 = .ok (.invokevirtual 614, 3) := by decide +kernel
theorem d_X12_does_127 : decode mX12_does.2.2.1 127 = .ok (.lstore 4, 2) := by decide +kernel
theorem d_X12_does_129 : decode mX12_does.2.2.1 129 = .ok (.aload_n 0, 1) := by decide +kernel
theorem d_X12_does_130 : decode mX12_does.2.2.1 130 = .ok (.lload 4, 2) := by decide +kernel
theorem d_X12_does_132 : decode mX12_does.2.2.1 132 = .ok (.ldc2_w 631, 3) := by decide +kernel
theorem kl_12_631 : Jvm.Cond.constantLong (e_cn 12) 631 (Int64.ofInt 1000) ∈ tblG := tblG_in (inT9 (List.mem_of_getElem? (i := 128) rfl)) rfl
theorem d_X12_does_135 : decode mX12_does.2.2.1 135 = .ok (.lload 4, 2) := by decide +kernel
theorem d_X12_does_137 : decode mX12_does.2.2.1 137 = .ok (.ldc2_w 631, 3) := by decide +kernel
theorem d_X12_does_140 : decode mX12_does.2.2.1 140 = .ok (.invokestatic 602, 3) := by decide +kernel
theorem d_X12_does_143 : decode mX12_does.2.2.1 143 = .ok (.lmul, 1) := by decide +kernel
theorem d_X12_does_144 : decode mX12_does.2.2.1 144 = .ok (.lsub, 1) := by decide +kernel
theorem d_X12_does_145 : decode mX12_does.2.2.1 145 = .ok (.l2i, 1) := by decide +kernel
theorem d_X12_does_146 : decode mX12_does.2.2.1 146 = .ok (.iload_n 2, 1) := by decide +kernel
theorem d_X12_does_147 : decode mX12_does.2.2.1 147 = .ok (.invokevirtual 633, 3) := by decide +kernel
def mX12_touches : MD := (12, yX12_touches, cX12_touches, 5, some .boolean)
theorem sel_X12_touches : Cond.instanceMethod mX12_touches.2.1 ∈ tblG ∧ Cond.selects mX12_touches.2.1.cls mX12_touches.2.1 mX12_touches.2.1 ∈ tblG := ⟨tblG_in (inT9 (List.mem_of_getElem? (i := 131) rfl)) rfl, tblG_in (inP8 (q := (mX12_touches.2.1, 121)) (List.mem_of_getElem? (i := 10) rfl)) rfl⟩
theorem s_12_633 : e_siteV 12 633 mX12_touches 12 := ⟨tblG_in (inT9 (List.mem_of_getElem? (i := 129) rfl)) rfl, sel_X12_touches.1, sel_X12_touches.2, rfl⟩
theorem d_X12_touches_0 : decode mX12_touches.2.2.1 0 = .ok (.aload_n 0, 1) := by decide +kernel
theorem d_X12_touches_1 : decode mX12_touches.2.2.1 1 = .ok (.dup, 1) := by decide +kernel
theorem d_X12_touches_2 : decode mX12_touches.2.2.1 2 = .ok (.getfield 213, 3) := by decide +kernel
theorem d_X12_touches_5 : decode mX12_touches.2.2.1 5 = .ok (.iconst 1, 1) := by decide +kernel
theorem d_X12_touches_6 : decode mX12_touches.2.2.1 6 = .ok (.iadd, 1) := by decide +kernel
theorem d_X12_touches_7 : decode mX12_touches.2.2.1 7 = .ok (.putfield 213, 3) := by decide +kernel
theorem d_X12_touches_10 : decode mX12_touches.2.2.1 10 = .ok (.iload_n 1, 1) := by decide +kernel
theorem d_X12_touches_11 : decode mX12_touches.2.2.1 11 = .ok (.aload_n 0, 1) := by decide +kernel
