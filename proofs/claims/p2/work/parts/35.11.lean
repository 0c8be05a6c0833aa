theorem d_X12_ask_8 : decode mX12_ask.2.2.1 8 = .ok (.ifCond .eq 31, 3) := by decide +kernel
theorem d_X12_ask_39 : decode mX12_ask.2.2.1 39 = .ok (.iconst (-1), 1) := by decide +kernel
theorem d_X12_ask_40 : decode mX12_ask.2.2.1 40 = .ok (.ireturn, 1) := by decide +kernel
theorem d_X12_ask_11 : decode mX12_ask.2.2.1 11 = .ok (.iload_n 2, 1) := by decide +kernel
theorem d_X12_ask_12 : decode mX12_ask.2.2.1 12 = .ok (.iconst 1, 1) := by decide +kernel
theorem d_X12_ask_13 : decode mX12_ask.2.2.1 13 = .ok (.bipush 20, 2) := by decide +kernel
theorem d_X12_ask_15 : decode mX12_ask.2.2.1 15 = .ok (.invokestatic 467, 3) := by decide +kernel
theorem d_X12_ask_18 : decode mX12_ask.2.2.1 18 = .ok (.ifCond .eq 21, 3) := by decide +kernel
theorem d_X12_ask_21 : decode mX12_ask.2.2.1 21 = .ok (.iload_n 3, 1) := by decide +kernel
theorem d_X12_ask_22 : decode mX12_ask.2.2.1 22 = .ok (.iconst 0, 1) := by decide +kernel
theorem d_X12_ask_23 : decode mX12_ask.2.2.1 23 = .ok (.iconst 5, 1) := by decide +kernel
theorem d_X12_ask_24 : decode mX12_ask.2.2.1 24 = .ok (.invokestatic 467, 3) := by decide +kernel
theorem d_X12_ask_27 : decode mX12_ask.2.2.1 27 = .ok (.ifCond .eq 12, 3) := by decide +kernel
theorem d_X12_ask_30 : decode mX12_ask.2.2.1 30 = .ok (.aload_n 0, 1) := by decide +kernel
theorem d_X12_ask_31 : decode mX12_ask.2.2.1 31 = .ok (.getfield 354, 3) := by decide +kernel
theorem d_X12_ask_34 : decode mX12_ask.2.2.1 34 = .ok (.bipush 6, 2) := by decide +kernel
theorem d_X12_ask_36 : decode mX12_ask.2.2.1 36 = .ok (.if_icmp .ne 5, 3) := by decide +kernel
theorem d_X12_ask_41 : decode mX12_ask.2.2.1 41 = .ok (.aload_n 0, 1) := by decide +kernel
theorem d_X12_ask_42 : decode mX12_ask.2.2.1 42 = .ok (.getfield 357, 3) := by decide +kernel
theorem d_X12_ask_45 : decode mX12_ask.2.2.1 45 = .ok (.aload_n 0, 1) := by decide +kernel
theorem d_X12_ask_46 : decode mX12_ask.2.2.1 46 = .ok (.getfield 354, 3) := by decide +kernel
theorem d_X12_ask_49 : decode mX12_ask.2.2.1 49 = .ok (.iload_n 1, 1) := by decide +kernel
theorem d_X12_ask_50 : decode mX12_ask.2.2.1 50 = .ok (.iastore, 1) := by decide +kernel
theorem d_X12_ask_51 : decode mX12_ask.2.2.1 51 = .ok (.aload_n 0, 1) := by decide +kernel
theorem d_X12_ask_52 : decode mX12_ask.2.2.1 52 = .ok (.getfield 360, 3) := by decide +kernel
theorem d_X12_ask_55 : decode mX12_ask.2.2.1 55 = .ok (.aload_n 0, 1) := by decide +kernel
theorem d_X12_ask_56 : decode mX12_ask.2.2.1 56 = .ok (.getfield 354, 3) := by decide +kernel
theorem d_X12_ask_59 : decode mX12_ask.2.2.1 59 = .ok (.iload_n 2, 1) := by decide +kernel
theorem d_X12_ask_60 : decode mX12_ask.2.2.1 60 = .ok (.iastore, 1) := by decide +kernel
theorem d_X12_ask_61 : decode mX12_ask.2.2.1 61 = .ok (.aload_n 0, 1) := by decide +kernel
theorem d_X12_ask_62 : decode mX12_ask.2.2.1 62 = .ok (.getfield 363, 3) := by decide +kernel
theorem d_X12_ask_65 : decode mX12_ask.2.2.1 65 = .ok (.aload_n 0, 1) := by decide +kernel
theorem d_X12_ask_66 : decode mX12_ask.2.2.1 66 = .ok (.getfield 354, 3) := by decide +kernel
theorem d_X12_ask_69 : decode mX12_ask.2.2.1 69 = .ok (.iload_n 3, 1) := by decide +kernel
theorem d_X12_ask_70 : decode mX12_ask.2.2.1 70 = .ok (.iastore, 1) := by decide +kernel
theorem d_X12_ask_71 : decode mX12_ask.2.2.1 71 = .ok (.aload_n 0, 1) := by decide +kernel
theorem d_X12_ask_72 : decode mX12_ask.2.2.1 72 = .ok (.dup, 1) := by decide +kernel
theorem d_X12_ask_73 : decode mX12_ask.2.2.1 73 = .ok (.getfield 354, 3) := by decide +kernel
theorem d_X12_ask_76 : decode mX12_ask.2.2.1 76 = .ok (.iconst 1, 1) := by decide +kernel
theorem d_X12_ask_77 : decode mX12_ask.2.2.1 77 = .ok (.iadd, 1) := by decide +kernel
theorem d_X12_ask_78 : decode mX12_ask.2.2.1 78 = .ok (.putfield 354, 3) := by decide +kernel
theorem d_X12_ask_81 : decode mX12_ask.2.2.1 81 = .ok (.aload_n 0, 1) := by decide +kernel
theorem d_X12_ask_82 : decode mX12_ask.2.2.1 82 = .ok (.getfield 354, 3) := by decide +kernel
theorem d_X12_ask_85 : decode mX12_ask.2.2.1 85 = .ok (.ireturn, 1) := by decide +kernel
def mX12_forget : MD := (12, yX12_forget, cX12_forget, 2, some .int)
theorem d_X12_forget_0 : decode mX12_forget.2.2.1 0 = .ok (.aload_n 0, 1) := by decide +kernel
theorem d_X12_forget_1 : decode mX12_forget.2.2.1 1 = .ok (.getfield 354, 3) := by decide +kernel
theorem d_X12_forget_4 : decode mX12_forget.2.2.1 4 = .ok (.istore_n 1, 1) := by decide +kernel
theorem d_X12_forget_5 : decode mX12_forget.2.2.1 5 = .ok (.aload_n 0, 1) := by decide +kernel
theorem d_X12_forget_6 : decode mX12_forget.2.2.1 6 = .ok (.iconst 0, 1) := by decide +kernel
theorem d_X12_forget_7 : decode mX12_forget.2.2.1 7 = .ok (.putfield 354, 3) := by decide +kernel
theorem d_X12_forget_10 : decode mX12_forget.2.2.1 10 = .ok (.iload_n 1, 1) := by decide +kernel
theorem d_X12_forget_11 : decode mX12_forget.2.2.1 11 = .ok (.ireturn, 1) := by decide +kernel
def mX12_later : MD := (12, yX12_later, cX12_later, 2, some .int)
theorem d_X12_later_0 : decode mX12_later.2.2.1 0 = .ok (.iload_n 1, 1) := by decide +kernel
theorem d_X12_later_1 : decode mX12_later.2.2.1 1 = .ok (.ifCond .lt 20, 3) := by decide +kernel
theorem d_X12_later_21 : decode mX12_later.2.2.1 21 = .ok (.iconst (-1), 1) := by decide +kernel
theorem d_X12_later_22 : decode mX12_later.2.2.1 22 = .ok (.ireturn, 1) := by decide +kernel
theorem d_X12_later_4 : decode mX12_later.2.2.1 4 = .ok (.iload_n 1, 1) := by decide +kernel
theorem d_X12_later_5 : decode mX12_later.2.2.1 5 = .ok (.aload_n 0, 1) := by decide +kernel
theorem d_X12_later_6 : decode mX12_later.2.2.1 6 = .ok (.getfield 366, 3) := by decide +kernel
theorem d_X12_later_9 : decode mX12_later.2.2.1 9 = .ok (.if_icmp .ge 12, 3) := by decide +kernel
theorem d_X12_later_12 : decode mX12_later.2.2.1 12 = .ok (.aload_n 0, 1) := by decide +kernel
theorem d_X12_later_13 : decode mX12_later.2.2.1 13 = .ok (.getfield 369, 3) := by decide +kernel
theorem d_X12_later_16 : decode mX12_later.2.2.1 16 = .ok (.iload_n 1, 1) := by decide +kernel
theorem d_X12_later_17 : decode mX12_later.2.2.1 17 = .ok (.iaload, 1) := by decide +kernel
theorem d_X12_later_18 : decode mX12_later.2.2.1 18 = .ok (.goto 4, 3) := by decide +kernel
def mX12_lasts : MD := (12, yX12_lasts, cX12_lasts, 7, some .int)
theorem d_X12_lasts_0 : decode mX12_lasts.2.2.1 0 = .ok (.aload_n 0, 1) := by decide +kernel
theorem d_X12_lasts_1 : decode mX12_lasts.2.2.1 1 = .ok (.getfield 270, 3) := by decide +kernel
theorem d_X12_lasts_4 : decode mX12_lasts.2.2.1 4 = .ok (.ifCond .eq 36, 3) := by decide +kernel
theorem d_X12_lasts_40 : decode mX12_lasts.2.2.1 40 = .ok (.iconst (-1), 1) := by decide +kernel
theorem d_X12_lasts_41 : decode mX12_lasts.2.2.1 41 = .ok (.ireturn, 1) := by decide +kernel
theorem d_X12_lasts_7 : decode mX12_lasts.2.2.1 7 = .ok (.iload_n 1, 1) := by decide +kernel
theorem d_X12_lasts_8 : decode mX12_lasts.2.2.1 8 = .ok (.iconst 0, 1) := by decide +kernel
theorem d_X12_lasts_9 : decode mX12_lasts.2.2.1 9 = .ok (.ldc_w 696, 3) := by decide +kernel
theorem k_12_696 : Jvm.Cond.constant (e_cn 12) 696 (Int32.ofInt 1000000000) ∈ tblG := tblG_in (inT10 (List.mem_of_getElem? (i := 37) rfl)) rfl
theorem d_X12_lasts_12 : decode mX12_lasts.2.2.1 12 = .ok (.invokestatic 467, 3) := by decide +kernel
theorem d_X12_lasts_15 : decode mX12_lasts.2.2.1 15 = .ok (.ifCond .eq 25, 3) := by decide +kernel
theorem d_X12_lasts_18 : decode mX12_lasts.2.2.1 18 = .ok (.iload_n 2, 1) := by decide +kernel
theorem d_X12_lasts_19 : decode mX12_lasts.2.2.1 19 = .ok (.iconst 0, 1) := by decide +kernel
theorem d_X12_lasts_20 : decode mX12_lasts.2.2.1 20 = .ok (.sipush 1000, 3) := by decide +kernel
theorem d_X12_lasts_23 : decode mX12_lasts.2.2.1 23 = .ok (.invokestatic 467, 3) := by decide +kernel
theorem d_X12_lasts_26 : decode mX12_lasts.2.2.1 26 = .ok (.ifCond .eq 14, 3) := by decide +kernel
theorem d_X12_lasts_29 : decode mX12_lasts.2.2.1 29 = .ok (.iload_n 3, 1) := by decide +kernel
theorem d_X12_lasts_30 : decode mX12_lasts.2.2.1 30 = .ok (.iconst 0, 1) := by decide +kernel
theorem d_X12_lasts_31 : decode mX12_lasts.2.2.1 31 = .ok (.ldc_w 697, 3) := by decide +kernel
theorem k_12_697 : Jvm.Cond.constant (e_cn 12) 697 (Int32.ofInt 100000) ∈ tblG := tblG_in (inT10 (List.mem_of_getElem? (i := 38) rfl)) rfl
theorem d_X12_lasts_34 : decode mX12_lasts.2.2.1 34 = .ok (.invokestatic 467, 3) := by decide +kernel
theorem d_X12_lasts_37 : decode mX12_lasts.2.2.1 37 = .ok (.ifCond .ne 5, 3) := by decide +kernel
theorem d_X12_lasts_42 : decode mX12_lasts.2.2.1 42 = .ok (.iload_n 2, 1) := by decide +kernel
theorem d_X12_lasts_43 : decode mX12_lasts.2.2.1 43 = .ok (.i2l, 1) := by decide +kernel
theorem d_X12_lasts_44 : decode mX12_lasts.2.2.1 44 = .ok (.aload_n 0, 1) := by decide +kernel
theorem d_X12_lasts_45 : decode mX12_lasts.2.2.1 45 = .ok (.getfield 276, 3) := by decide +kernel
theorem d_X12_lasts_48 : decode mX12_lasts.2.2.1 48 = .ok (.lmul, 1) := by decide +kernel
theorem d_X12_lasts_49 : decode mX12_lasts.2.2.1 49 = .ok (.lstore 4, 2) := by decide +kernel
theorem d_X12_lasts_51 : decode mX12_lasts.2.2.1 51 = .ok (.iconst 0, 1) := by decide +kernel
theorem d_X12_lasts_52 : decode mX12_lasts.2.2.1 52 = .ok (.istore 6, 2) := by decide +kernel
theorem d_X12_lasts_54 : decode mX12_lasts.2.2.1 54 = .ok (.iload 6, 2) := by decide +kernel
theorem d_X12_lasts_56 : decode mX12_lasts.2.2.1 56 = .ok (.aload_n 0, 1) := by decide +kernel
theorem d_X12_lasts_57 : decode mX12_lasts.2.2.1 57 = .ok (.getfield 63, 3) := by decide +kernel
theorem d_X12_lasts_60 : decode mX12_lasts.2.2.1 60 = .ok (.aload_n 0, 1) := by decide +kernel
theorem d_X12_lasts_61 : decode mX12_lasts.2.2.1 61 = .ok (.getfield 48, 3) := by decide +kernel
theorem d_X12_lasts_64 : decode mX12_lasts.2.2.1 64 = .ok (.iaload, 1) := by decide +kernel
theorem d_X12_lasts_65 : decode mX12_lasts.2.2.1 65 = .ok (.if_icmp .ge 24, 3) := by decide +kernel
theorem d_X12_lasts_89 : decode mX12_lasts.2.2.1 89 = .ok (.lload 4, 2) := by decide +kernel
theorem d_X12_lasts_91 : decode mX12_lasts.2.2.1 91 = .ok (.lconst 0, 1) := by decide +kernel
theorem d_X12_lasts_92 : decode mX12_lasts.2.2.1 92 = .ok (.lcmp, 1) := by decide +kernel
theorem d_X12_lasts_93 : decode mX12_lasts.2.2.1 93 = .ok (.ifCond .ne 7, 3) := by decide +kernel
theorem d_X12_lasts_100 : decode mX12_lasts.2.2.1 100 = .ok (.iload_n 1, 1) := by decide +kernel
theorem d_X12_lasts_101 : decode mX12_lasts.2.2.1 101 = .ok (.i2l, 1) := by decide +kernel
theorem d_X12_lasts_102 : decode mX12_lasts.2.2.1 102 = .ok (.lload 4, 2) := by decide +kernel
theorem d_X12_lasts_104 : decode mX12_lasts.2.2.1 104 = .ok (.ldiv, 1) := by decide +kernel
theorem d_X12_lasts_105 : decode mX12_lasts.2.2.1 105 = .ok (.l2i, 1) := by decide +kernel
theorem d_X12_lasts_106 : decode mX12_lasts.2.2.1 106 = .ok (.ireturn, 1) := by decide +kernel
theorem d_X12_lasts_96 : decode mX12_lasts.2.2.1 96 = .ok (.iconst (-1), 1) := by decide +kernel
theorem d_X12_lasts_97 : decode mX12_lasts.2.2.1 97 = .ok (.goto 9, 3) := by decide +kernel
theorem d_X12_lasts_68 : decode mX12_lasts.2.2.1 68 = .ok (.lload 4, 2) := by decide +kernel
theorem d_X12_lasts_70 : decode mX12_lasts.2.2.1 70 = .ok (.iload_n 3, 1) := by decide +kernel
theorem d_X12_lasts_71 : decode mX12_lasts.2.2.1 71 = .ok (.i2l, 1) := by decide +kernel
theorem d_X12_lasts_72 : decode mX12_lasts.2.2.1 72 = .ok (.aload_n 0, 1) := by decide +kernel
theorem d_X12_lasts_73 : decode mX12_lasts.2.2.1 73 = .ok (.iload 6, 2) := by decide +kernel
theorem d_X12_lasts_75 : decode mX12_lasts.2.2.1 75 = .ok (.invokevirtual 568, 3) := by decide +kernel
theorem d_X12_lasts_78 : decode mX12_lasts.2.2.1 78 = .ok (.i2l, 1) := by decide +kernel
theorem d_X12_lasts_79 : decode mX12_lasts.2.2.1 79 = .ok (.lmul, 1) := by decide +kernel
theorem d_X12_lasts_80 : decode mX12_lasts.2.2.1 80 = .ok (.ladd, 1) := by decide +kernel
theorem d_X12_lasts_81 : decode mX12_lasts.2.2.1 81 = .ok (.lstore 4, 2) := by decide +kernel
theorem d_X12_lasts_83 : decode mX12_lasts.2.2.1 83 = .ok (.iinc 6 1, 3) := by decide +kernel
theorem d_X12_lasts_86 : decode mX12_lasts.2.2.1 86 = .ok (.goto (-32), 3) := by decide +kernel
def mX12_measure : MD := (12, yX12_measure, cX12_measure, 3, some .int)
theorem d_X12_measure_0 : decode mX12_measure.2.2.1 0 = .ok (.iload_n 1, 1) := by decide +kernel
theorem d_X12_measure_1 : decode mX12_measure.2.2.1 1 = .ok (.iconst 0, 1) := by decide +kernel
theorem d_X12_measure_2 : decode mX12_measure.2.2.1 2 = .ok (.ldc_w 688, 3) := by decide +kernel
theorem k_12_688 : Jvm.Cond.constant (e_cn 12) 688 (Int32.ofInt 10000000) ∈ tblG := tblG_in (inT9 (List.mem_of_getElem? (i := 237) rfl)) rfl
theorem d_X12_measure_5 : decode mX12_measure.2.2.1 5 = .ok (.invokestatic 467, 3) := by decide +kernel
theorem d_X12_measure_8 : decode mX12_measure.2.2.1 8 = .ok (.ifCond .eq 12, 3) := by decide +kernel
theorem d_X12_measure_20 : decode mX12_measure.2.2.1 20 = .ok (.iconst (-1), 1) := by decide +kernel
theorem d_X12_measure_21 : decode mX12_measure.2.2.1 21 = .ok (.ireturn, 1) := by decide +kernel
theorem d_X12_measure_11 : decode mX12_measure.2.2.1 11 = .ok (.aload_n 0, 1) := by decide +kernel
theorem d_X12_measure_12 : decode mX12_measure.2.2.1 12 = .ok (.getfield 333, 3) := by decide +kernel
theorem d_X12_measure_15 : decode mX12_measure.2.2.1 15 = .ok (.bipush 12, 2) := by decide +kernel
theorem d_X12_measure_17 : decode mX12_measure.2.2.1 17 = .ok (.if_icmp .ne 5, 3) := by decide +kernel
theorem d_X12_measure_22 : decode mX12_measure.2.2.1 22 = .ok (.iconst 0, 1) := by decide +kernel
theorem d_X12_measure_23 : decode mX12_measure.2.2.1 23 = .ok (.istore_n 2, 1) := by decide +kernel
theorem d_X12_measure_24 : decode mX12_measure.2.2.1 24 = .ok (.iload_n 2, 1) := by decide +kernel
theorem d_X12_measure_25 : decode mX12_measure.2.2.1 25 = .ok (.iconst 3, 1) := by decide +kernel
theorem d_X12_measure_26 : decode mX12_measure.2.2.1 26 = .ok (.if_icmp .ge 28, 3) := by decide +kernel
theorem d_X12_measure_29 : decode mX12_measure.2.2.1 29 = .ok (.aload_n 0, 1) := by decide +kernel
theorem d_X12_measure_30 : decode mX12_measure.2.2.1 30 = .ok (.getfield 336, 3) := by decide +kernel
theorem d_X12_measure_33 : decode mX12_measure.2.2.1 33 = .ok (.iconst 3, 1) := by decide +kernel
theorem d_X12_measure_34 : decode mX12_measure.2.2.1 34 = .ok (.aload_n 0, 1) := by decide +kernel
theorem d_X12_measure_35 : decode mX12_measure.2.2.1 35 = .ok (.getfield 333, 3) := by decide +kernel
theorem d_X12_measure_38 : decode mX12_measure.2.2.1 38 = .ok (.imul, 1) := by decide +kernel
theorem d_X12_measure_39 : decode mX12_measure.2.2.1 39 = .ok (.iload_n 2, 1) := by decide +kernel
theorem d_X12_measure_40 : decode mX12_measure.2.2.1 40 = .ok (.iadd, 1) := by decide +kernel
theorem d_X12_measure_41 : decode mX12_measure.2.2.1 41 = .ok (.aload_n 0, 1) := by decide +kernel
theorem d_X12_measure_42 : decode mX12_measure.2.2.1 42 = .ok (.getfield 168, 3) := by decide +kernel
theorem d_X12_measure_45 : decode mX12_measure.2.2.1 45 = .ok (.iload_n 2, 1) := by decide +kernel
theorem d_X12_measure_46 : decode mX12_measure.2.2.1 46 = .ok (.iaload, 1) := by decide +kernel
theorem d_X12_measure_47 : decode mX12_measure.2.2.1 47 = .ok (.iastore, 1) := by decide +kernel
theorem d_X12_measure_48 : decode mX12_measure.2.2.1 48 = .ok (.iinc 2 1, 3) := by decide +kernel
theorem d_X12_measure_51 : decode mX12_measure.2.2.1 51 = .ok (.goto (-27), 3) := by decide +kernel
theorem d_X12_measure_54 : decode mX12_measure.2.2.1 54 = .ok (.aload_n 0, 1) := by decide +kernel
theorem d_X12_measure_55 : decode mX12_measure.2.2.1 55 = .ok (.getfield 339, 3) := by decide +kernel
theorem d_X12_measure_58 : decode mX12_measure.2.2.1 58 = .ok (.aload_n 0, 1) := by decide +kernel
theorem d_X12_measure_59 : decode mX12_measure.2.2.1 59 = .ok (.getfield 333, 3) := by decide +kernel
theorem d_X12_measure_62 : decode mX12_measure.2.2.1 62 = .ok (.iload_n 1, 1) := by decide +kernel
theorem d_X12_measure_63 : decode mX12_measure.2.2.1 63 = .ok (.iastore, 1) := by decide +kernel
theorem d_X12_measure_64 : decode mX12_measure.2.2.1 64 = .ok (.aload_n 0, 1) := by decide +kernel
theorem d_X12_measure_65 : decode mX12_measure.2.2.1 65 = .ok (.dup, 1) := by decide +kernel
theorem d_X12_measure_66 : decode mX12_measure.2.2.1 66 = .ok (.getfield 333, 3) := by decide +kernel
theorem d_X12_measure_69 : decode mX12_measure.2.2.1 69 = .ok (.iconst 1, 1) := by decide +kernel
theorem d_X12_measure_70 : decode mX12_measure.2.2.1 70 = .ok (.iadd, 1) := by decide +kernel
theorem d_X12_measure_71 : decode mX12_measure.2.2.1 71 = .ok (.putfield 333, 3) := by decide +kernel
theorem d_X12_measure_74 : decode mX12_measure.2.2.1 74 = .ok (.aload_n 0, 1) := by decide +kernel
theorem d_X12_measure_75 : decode mX12_measure.2.2.1 75 = .ok (.getfield 333, 3) := by decide +kernel
theorem d_X12_measure_78 : decode mX12_measure.2.2.1 78 = .ok (.ireturn, 1) := by decide +kernel
def mX12_over : MD := (12, yX12_over, cX12_over, 10, some .int)
theorem d_X12_over_0 : decode mX12_over.2.2.1 0 = .ok (.aload_n 0, 1) := by decide +kernel
theorem d_X12_over_1 : decode mX12_over.2.2.1 1 = .ok (.iconst 0, 1) := by decide +kernel
theorem d_X12_over_2 : decode mX12_over.2.2.1 2 = .ok (.invokevirtual 680, 3) := by decide +kernel
def mX12_span : MD := (12, yX12_span, cX12_span, 2, some .int)
theorem sel_X12_span : Cond.instanceMethod mX12_span.2.1 ∈ tblG ∧ Cond.selects mX12_span.2.1.cls mX12_span.2.1 mX12_span.2.1 ∈ tblG := ⟨tblG_in (inT9 (List.mem_of_getElem? (i := 222) rfl)) rfl, tblG_in (inP9 (q := (mX12_span.2.1, 121)) (List.mem_of_getElem? (i := 4) rfl)) rfl⟩
theorem s_12_680 : e_siteV 12 680 mX12_span 12 := ⟨tblG_in (inT9 (List.mem_of_getElem? (i := 220) rfl)) rfl, sel_X12_span.1, sel_X12_span.2, rfl⟩
theorem d_X12_span_0 : decode mX12_span.2.2.1 0 = .ok (.iload_n 1, 1) := by decide +kernel
theorem d_X12_span_1 : decode mX12_span.2.2.1 1 = .ok (.aload_n 0, 1) := by decide +kernel
theorem d_X12_span_2 : decode mX12_span.2.2.1 2 = .ok (.getfield 66, 3) := by decide +kernel
theorem d_X12_span_5 : decode mX12_span.2.2.1 5 = .ok (.aload_n 0, 1) := by decide +kernel
theorem d_X12_span_6 : decode mX12_span.2.2.1 6 = .ok (.getfield 48, 3) := by decide +kernel
theorem d_X12_span_9 : decode mX12_span.2.2.1 9 = .ok (.iaload, 1) := by decide +kernel
theorem d_X12_span_10 : decode mX12_span.2.2.1 10 = .ok (.if_icmp .ge 35, 3) := by decide +kernel
theorem d_X12_span_45 : decode mX12_span.2.2.1 45 = .ok (.iconst 1, 1) := by decide +kernel
theorem d_X12_span_46 : decode mX12_span.2.2.1 46 = .ok (.ireturn, 1) := by decide +kernel
theorem d_X12_span_13 : decode mX12_span.2.2.1 13 = .ok (.aload_n 0, 1) := by decide +kernel
theorem d_X12_span_14 : decode mX12_span.2.2.1 14 = .ok (.getfield 88, 3) := by decide +kernel
theorem d_X12_span_17 : decode mX12_span.2.2.1 17 = .ok (.iconst 3, 1) := by decide +kernel
theorem d_X12_span_18 : decode mX12_span.2.2.1 18 = .ok (.aload_n 0, 1) := by decide +kernel
theorem d_X12_span_19 : decode mX12_span.2.2.1 19 = .ok (.getfield 48, 3) := by decide +kernel
theorem d_X12_span_22 : decode mX12_span.2.2.1 22 = .ok (.imul, 1) := by decide +kernel
theorem d_X12_span_23 : decode mX12_span.2.2.1 23 = .ok (.iload_n 1, 1) := by decide +kernel
theorem d_X12_span_24 : decode mX12_span.2.2.1 24 = .ok (.iadd, 1) := by decide +kernel
theorem d_X12_span_25 : decode mX12_span.2.2.1 25 = .ok (.iaload, 1) := by decide +kernel
theorem d_X12_span_26 : decode mX12_span.2.2.1 26 = .ok (.aload_n 0, 1) := by decide +kernel
theorem d_X12_span_27 : decode mX12_span.2.2.1 27 = .ok (.getfield 85, 3) := by decide +kernel
theorem d_X12_span_30 : decode mX12_span.2.2.1 30 = .ok (.iconst 3, 1) := by decide +kernel
theorem d_X12_span_31 : decode mX12_span.2.2.1 31 = .ok (.aload_n 0, 1) := by decide +kernel
theorem d_X12_span_32 : decode mX12_span.2.2.1 32 = .ok (.getfield 48, 3) := by decide +kernel
theorem d_X12_span_35 : decode mX12_span.2.2.1 35 = .ok (.imul, 1) := by decide +kernel
theorem d_X12_span_36 : decode mX12_span.2.2.1 36 = .ok (.iload_n 1, 1) := by decide +kernel
theorem d_X12_span_37 : decode mX12_span.2.2.1 37 = .ok (.iadd, 1) := by decide +kernel
theorem d_X12_span_38 : decode mX12_span.2.2.1 38 = .ok (.iaload, 1) := by decide +kernel
theorem d_X12_span_39 : decode mX12_span.2.2.1 39 = .ok (.isub, 1) := by decide +kernel
theorem d_X12_span_40 : decode mX12_span.2.2.1 40 = .ok (.iconst 1, 1) := by decide +kernel
theorem d_X12_span_41 : decode mX12_span.2.2.1 41 = .ok (.iadd, 1) := by decide +kernel
theorem d_X12_span_42 : decode mX12_span.2.2.1 42 = .ok (.goto 4, 3) := by decide +kernel
theorem ok_X12_span : e_m mX12_span 1 := ⟨tblG_in (inT9 (List.mem_of_getElem? (i := 223) rfl)) rfl, plainFor_of_name (by decide), rfl, ini_12, by decide +kernel, by decide⟩
theorem d_X12_over_5 : decode mX12_over.2.2.1 5 = .ok (.aload_n 0, 1) := by decide +kernel
theorem d_X12_over_6 : decode mX12_over.2.2.1 6 = .ok (.iconst 1, 1) := by decide +kernel
theorem d_X12_over_7 : decode mX12_over.2.2.1 7 = .ok (.invokevirtual 680, 3) := by decide +kernel
theorem d_X12_over_10 : decode mX12_over.2.2.1 10 = .ok (.imul, 1) := by decide +kernel
theorem d_X12_over_11 : decode mX12_over.2.2.1 11 = .ok (.aload_n 0, 1) := by decide +kernel
theorem d_X12_over_12 : decode mX12_over.2.2.1 12 = .ok (.iconst 2, 1) := by decide +kernel
theorem d_X12_over_13 : decode mX12_over.2.2.1 13 = .ok (.invokevirtual 680, 3) := by decide +kernel
theorem d_X12_over_16 : decode mX12_over.2.2.1 16 = .ok (.imul, 1) := by decide +kernel
theorem d_X12_over_17 : decode mX12_over.2.2.1 17 = .ok (.sipush 256, 3) := by decide +kernel
theorem d_X12_over_20 : decode mX12_over.2.2.1 20 = .ok (.if_icmp .le 5, 3) := by decide +kernel
theorem d_X12_over_25 : decode mX12_over.2.2.1 25 = .ok (.lconst 0, 1) := by decide +kernel
theorem d_X12_over_26 : decode mX12_over.2.2.1 26 = .ok (.lstore_n 2, 1) := by decide +kernel
theorem d_X12_over_27 : decode mX12_over.2.2.1 27 = .ok (.iconst 0, 1) := by decide +kernel
theorem d_X12_over_28 : decode mX12_over.2.2.1 28 = .ok (.istore 4, 2) := by decide +kernel
