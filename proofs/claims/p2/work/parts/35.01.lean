theorem d_X12_letter_54 : decode mX12_letter.2.2.1 54 = .ok (.iload_n 2, 1) := by decide +kernel
theorem d_X12_letter_55 : decode mX12_letter.2.2.1 55 = .ok (.iadd, 1) := by decide +kernel
theorem d_X12_letter_56 : decode mX12_letter.2.2.1 56 = .ok (.laload, 1) := by decide +kernel
theorem d_X12_letter_57 : decode mX12_letter.2.2.1 57 = .ok (.iload_n 3, 1) := by decide +kernel
theorem d_X12_letter_58 : decode mX12_letter.2.2.1 58 = .ok (.invokestatic 558, 3) := by decide +kernel
theorem d_X12_letter_61 : decode mX12_letter.2.2.1 61 = .ok (.ireturn, 1) := by decide +kernel
theorem d_X12_letter_62 : decode mX12_letter.2.2.1 62 = .ok (.iload_n 1, 1) := by decide +kernel
theorem d_X12_letter_63 : decode mX12_letter.2.2.1 63 = .ok (.iconst 2, 1) := by decide +kernel
theorem d_X12_letter_64 : decode mX12_letter.2.2.1 64 = .ok (.if_icmp .ne 41, 3) := by decide +kernel
theorem d_X12_letter_105 : decode mX12_letter.2.2.1 105 = .ok (.iconst (-1), 1) := by decide +kernel
theorem d_X12_letter_106 : decode mX12_letter.2.2.1 106 = .ok (.ireturn, 1) := by decide +kernel
theorem d_X12_letter_67 : decode mX12_letter.2.2.1 67 = .ok (.iload_n 2, 1) := by decide +kernel
theorem d_X12_letter_68 : decode mX12_letter.2.2.1 68 = .ok (.iconst 0, 1) := by decide +kernel
theorem d_X12_letter_69 : decode mX12_letter.2.2.1 69 = .ok (.aload_n 0, 1) := by decide +kernel
theorem d_X12_letter_70 : decode mX12_letter.2.2.1 70 = .ok (.getfield 69, 3) := by decide +kernel
theorem d_X12_letter_73 : decode mX12_letter.2.2.1 73 = .ok (.aload_n 0, 1) := by decide +kernel
theorem d_X12_letter_74 : decode mX12_letter.2.2.1 74 = .ok (.getfield 48, 3) := by decide +kernel
theorem d_X12_letter_77 : decode mX12_letter.2.2.1 77 = .ok (.iaload, 1) := by decide +kernel
theorem d_X12_letter_78 : decode mX12_letter.2.2.1 78 = .ok (.iconst 1, 1) := by decide +kernel
theorem d_X12_letter_79 : decode mX12_letter.2.2.1 79 = .ok (.isub, 1) := by decide +kernel
theorem d_X12_letter_80 : decode mX12_letter.2.2.1 80 = .ok (.invokestatic 467, 3) := by decide +kernel
theorem d_X12_letter_83 : decode mX12_letter.2.2.1 83 = .ok (.ifCond .eq 22, 3) := by decide +kernel
theorem d_X12_letter_86 : decode mX12_letter.2.2.1 86 = .ok (.aload_n 0, 1) := by decide +kernel
theorem d_X12_letter_87 : decode mX12_letter.2.2.1 87 = .ok (.getfield 91, 3) := by decide +kernel
theorem d_X12_letter_90 : decode mX12_letter.2.2.1 90 = .ok (.bipush 6, 2) := by decide +kernel
theorem d_X12_letter_92 : decode mX12_letter.2.2.1 92 = .ok (.aload_n 0, 1) := by decide +kernel
theorem d_X12_letter_93 : decode mX12_letter.2.2.1 93 = .ok (.getfield 48, 3) := by decide +kernel
theorem d_X12_letter_96 : decode mX12_letter.2.2.1 96 = .ok (.imul, 1) := by decide +kernel
theorem d_X12_letter_97 : decode mX12_letter.2.2.1 97 = .ok (.iload_n 2, 1) := by decide +kernel
theorem d_X12_letter_98 : decode mX12_letter.2.2.1 98 = .ok (.iadd, 1) := by decide +kernel
theorem d_X12_letter_99 : decode mX12_letter.2.2.1 99 = .ok (.laload, 1) := by decide +kernel
theorem d_X12_letter_100 : decode mX12_letter.2.2.1 100 = .ok (.iload_n 3, 1) := by decide +kernel
theorem d_X12_letter_101 : decode mX12_letter.2.2.1 101 = .ok (.invokestatic 558, 3) := by decide +kernel
theorem d_X12_letter_104 : decode mX12_letter.2.2.1 104 = .ok (.ireturn, 1) := by decide +kernel
def mX12_put_ : MD := (12, yX12_put_, cX12_put_, 3, some .boolean)
theorem d_X12_put__0 : decode mX12_put_.2.2.1 0 = .ok (.aload_n 0, 1) := by decide +kernel
theorem d_X12_put__1 : decode mX12_put_.2.2.1 1 = .ok (.iload_n 1, 1) := by decide +kernel
theorem d_X12_put__2 : decode mX12_put_.2.2.1 2 = .ok (.invokevirtual 562, 3) := by decide +kernel
theorem d_X12_put__5 : decode mX12_put_.2.2.1 5 = .ok (.ifCond .eq 36, 3) := by decide +kernel
theorem d_X12_put__41 : decode mX12_put_.2.2.1 41 = .ok (.iconst 0, 1) := by decide +kernel
theorem d_X12_put__42 : decode mX12_put_.2.2.1 42 = .ok (.ireturn, 1) := by decide +kernel
theorem d_X12_put__8 : decode mX12_put_.2.2.1 8 = .ok (.iload_n 2, 1) := by decide +kernel
theorem d_X12_put__9 : decode mX12_put_.2.2.1 9 = .ok (.aload_n 0, 1) := by decide +kernel
theorem d_X12_put__10 : decode mX12_put_.2.2.1 10 = .ok (.getfield 85, 3) := by decide +kernel
theorem d_X12_put__13 : decode mX12_put_.2.2.1 13 = .ok (.iconst 3, 1) := by decide +kernel
theorem d_X12_put__14 : decode mX12_put_.2.2.1 14 = .ok (.aload_n 0, 1) := by decide +kernel
theorem d_X12_put__15 : decode mX12_put_.2.2.1 15 = .ok (.getfield 48, 3) := by decide +kernel
theorem d_X12_put__18 : decode mX12_put_.2.2.1 18 = .ok (.imul, 1) := by decide +kernel
theorem d_X12_put__19 : decode mX12_put_.2.2.1 19 = .ok (.iload_n 1, 1) := by decide +kernel
theorem d_X12_put__20 : decode mX12_put_.2.2.1 20 = .ok (.iadd, 1) := by decide +kernel
theorem d_X12_put__21 : decode mX12_put_.2.2.1 21 = .ok (.iaload, 1) := by decide +kernel
theorem d_X12_put__22 : decode mX12_put_.2.2.1 22 = .ok (.aload_n 0, 1) := by decide +kernel
theorem d_X12_put__23 : decode mX12_put_.2.2.1 23 = .ok (.getfield 88, 3) := by decide +kernel
theorem d_X12_put__26 : decode mX12_put_.2.2.1 26 = .ok (.iconst 3, 1) := by decide +kernel
theorem d_X12_put__27 : decode mX12_put_.2.2.1 27 = .ok (.aload_n 0, 1) := by decide +kernel
theorem d_X12_put__28 : decode mX12_put_.2.2.1 28 = .ok (.getfield 48, 3) := by decide +kernel
theorem d_X12_put__31 : decode mX12_put_.2.2.1 31 = .ok (.imul, 1) := by decide +kernel
theorem d_X12_put__32 : decode mX12_put_.2.2.1 32 = .ok (.iload_n 1, 1) := by decide +kernel
theorem d_X12_put__33 : decode mX12_put_.2.2.1 33 = .ok (.iadd, 1) := by decide +kernel
theorem d_X12_put__34 : decode mX12_put_.2.2.1 34 = .ok (.iaload, 1) := by decide +kernel
theorem d_X12_put__35 : decode mX12_put_.2.2.1 35 = .ok (.invokestatic 467, 3) := by decide +kernel
theorem d_X12_put__38 : decode mX12_put_.2.2.1 38 = .ok (.ifCond .ne 5, 3) := by decide +kernel
theorem d_X12_put__43 : decode mX12_put_.2.2.1 43 = .ok (.aload_n 0, 1) := by decide +kernel
theorem d_X12_put__44 : decode mX12_put_.2.2.1 44 = .ok (.getfield 168, 3) := by decide +kernel
theorem d_X12_put__47 : decode mX12_put_.2.2.1 47 = .ok (.iload_n 1, 1) := by decide +kernel
theorem d_X12_put__48 : decode mX12_put_.2.2.1 48 = .ok (.iload_n 2, 1) := by decide +kernel
theorem d_X12_put__49 : decode mX12_put_.2.2.1 49 = .ok (.iastore, 1) := by decide +kernel
theorem d_X12_put__50 : decode mX12_put_.2.2.1 50 = .ok (.iconst 1, 1) := by decide +kernel
theorem d_X12_put__51 : decode mX12_put_.2.2.1 51 = .ok (.ireturn, 1) := by decide +kernel
def mX12_ran : MD := (12, yX12_ran, cX12_ran, 2, some .int)
theorem d_X12_ran_0 : decode mX12_ran.2.2.1 0 = .ok (.aload_n 0, 1) := by decide +kernel
theorem d_X12_ran_1 : decode mX12_ran.2.2.1 1 = .ok (.getfield 270, 3) := by decide +kernel
theorem d_X12_ran_4 : decode mX12_ran.2.2.1 4 = .ok (.ifCond .ne 5, 3) := by decide +kernel
theorem d_X12_ran_9 : decode mX12_ran.2.2.1 9 = .ok (.iload_n 1, 1) := by decide +kernel
theorem d_X12_ran_10 : decode mX12_ran.2.2.1 10 = .ok (.tableswitch 69 0 5 #[38, 43, 49, 54, 59, 64], 38) := by decide +kernel
theorem d_X12_ran_79 : decode mX12_ran.2.2.1 79 = .ok (.iconst (-1), 1) := by decide +kernel
theorem d_X12_ran_80 : decode mX12_ran.2.2.1 80 = .ok (.ireturn, 1) := by decide +kernel
theorem d_X12_ran_74 : decode mX12_ran.2.2.1 74 = .ok (.aload_n 0, 1) := by decide +kernel
theorem d_X12_ran_75 : decode mX12_ran.2.2.1 75 = .ok (.getfield 288, 3) := by decide +kernel
theorem d_X12_ran_78 : decode mX12_ran.2.2.1 78 = .ok (.ireturn, 1) := by decide +kernel
theorem d_X12_ran_69 : decode mX12_ran.2.2.1 69 = .ok (.aload_n 0, 1) := by decide +kernel
theorem d_X12_ran_70 : decode mX12_ran.2.2.1 70 = .ok (.getfield 285, 3) := by decide +kernel
theorem d_X12_ran_73 : decode mX12_ran.2.2.1 73 = .ok (.ireturn, 1) := by decide +kernel
theorem d_X12_ran_64 : decode mX12_ran.2.2.1 64 = .ok (.aload_n 0, 1) := by decide +kernel
theorem d_X12_ran_65 : decode mX12_ran.2.2.1 65 = .ok (.getfield 282, 3) := by decide +kernel
theorem d_X12_ran_68 : decode mX12_ran.2.2.1 68 = .ok (.ireturn, 1) := by decide +kernel
theorem d_X12_ran_59 : decode mX12_ran.2.2.1 59 = .ok (.aload_n 0, 1) := by decide +kernel
theorem d_X12_ran_60 : decode mX12_ran.2.2.1 60 = .ok (.getfield 279, 3) := by decide +kernel
theorem d_X12_ran_63 : decode mX12_ran.2.2.1 63 = .ok (.ireturn, 1) := by decide +kernel
theorem d_X12_ran_53 : decode mX12_ran.2.2.1 53 = .ok (.aload_n 0, 1) := by decide +kernel
theorem d_X12_ran_54 : decode mX12_ran.2.2.1 54 = .ok (.getfield 276, 3) := by decide +kernel
theorem d_X12_ran_57 : decode mX12_ran.2.2.1 57 = .ok (.l2i, 1) := by decide +kernel
theorem d_X12_ran_58 : decode mX12_ran.2.2.1 58 = .ok (.ireturn, 1) := by decide +kernel
theorem d_X12_ran_48 : decode mX12_ran.2.2.1 48 = .ok (.aload_n 0, 1) := by decide +kernel
theorem d_X12_ran_49 : decode mX12_ran.2.2.1 49 = .ok (.getfield 273, 3) := by decide +kernel
theorem d_X12_ran_52 : decode mX12_ran.2.2.1 52 = .ok (.ireturn, 1) := by decide +kernel
theorem d_X12_ran_7 : decode mX12_ran.2.2.1 7 = .ok (.iconst (-1), 1) := by decide +kernel
theorem d_X12_ran_8 : decode mX12_ran.2.2.1 8 = .ok (.ireturn, 1) := by decide +kernel
def mX12_value : MD := (12, yX12_value, cX12_value, 2, some .int)
theorem d_X12_value_0 : decode mX12_value.2.2.1 0 = .ok (.aload_n 0, 1) := by decide +kernel
theorem d_X12_value_1 : decode mX12_value.2.2.1 1 = .ok (.getfield 270, 3) := by decide +kernel
theorem d_X12_value_4 : decode mX12_value.2.2.1 4 = .ok (.ifCond .eq 31, 3) := by decide +kernel
theorem d_X12_value_35 : decode mX12_value.2.2.1 35 = .ok (.ldc_w 640, 3) := by decide +kernel
theorem k_12_640 : Jvm.Cond.constant (e_cn 12) 640 (Int32.ofInt (-2000000000)) ∈ tblG := tblG_in (inT9 (List.mem_of_getElem? (i := 141) rfl)) rfl
theorem d_X12_value_38 : decode mX12_value.2.2.1 38 = .ok (.ireturn, 1) := by decide +kernel
theorem d_X12_value_7 : decode mX12_value.2.2.1 7 = .ok (.iload_n 1, 1) := by decide +kernel
theorem d_X12_value_8 : decode mX12_value.2.2.1 8 = .ok (.iconst 0, 1) := by decide +kernel
theorem d_X12_value_9 : decode mX12_value.2.2.1 9 = .ok (.aload_n 0, 1) := by decide +kernel
theorem d_X12_value_10 : decode mX12_value.2.2.1 10 = .ok (.getfield 69, 3) := by decide +kernel
theorem d_X12_value_13 : decode mX12_value.2.2.1 13 = .ok (.aload_n 0, 1) := by decide +kernel
theorem d_X12_value_14 : decode mX12_value.2.2.1 14 = .ok (.getfield 48, 3) := by decide +kernel
theorem d_X12_value_17 : decode mX12_value.2.2.1 17 = .ok (.iaload, 1) := by decide +kernel
theorem d_X12_value_18 : decode mX12_value.2.2.1 18 = .ok (.iconst 1, 1) := by decide +kernel
theorem d_X12_value_19 : decode mX12_value.2.2.1 19 = .ok (.isub, 1) := by decide +kernel
theorem d_X12_value_20 : decode mX12_value.2.2.1 20 = .ok (.invokestatic 467, 3) := by decide +kernel
theorem d_X12_value_23 : decode mX12_value.2.2.1 23 = .ok (.ifCond .eq 12, 3) := by decide +kernel
theorem d_X12_value_26 : decode mX12_value.2.2.1 26 = .ok (.aload_n 0, 1) := by decide +kernel
theorem d_X12_value_27 : decode mX12_value.2.2.1 27 = .ok (.getfield 291, 3) := by decide +kernel
theorem d_X12_value_30 : decode mX12_value.2.2.1 30 = .ok (.iload_n 1, 1) := by decide +kernel
theorem d_X12_value_31 : decode mX12_value.2.2.1 31 = .ok (.iaload, 1) := by decide +kernel
theorem d_X12_value_32 : decode mX12_value.2.2.1 32 = .ok (.goto 6, 3) := by decide +kernel
def mX12_spent : MD := (12, yX12_spent, cX12_spent, 3, some .int)
theorem d_X12_spent_0 : decode mX12_spent.2.2.1 0 = .ok (.aload_n 0, 1) := by decide +kernel
theorem d_X12_spent_1 : decode mX12_spent.2.2.1 1 = .ok (.getfield 270, 3) := by decide +kernel
theorem d_X12_spent_4 : decode mX12_spent.2.2.1 4 = .ok (.ifCond .eq 33, 3) := by decide +kernel
theorem d_X12_spent_37 : decode mX12_spent.2.2.1 37 = .ok (.iconst (-1), 1) := by decide +kernel
theorem d_X12_spent_38 : decode mX12_spent.2.2.1 38 = .ok (.ireturn, 1) := by decide +kernel
theorem d_X12_spent_7 : decode mX12_spent.2.2.1 7 = .ok (.aload_n 0, 1) := by decide +kernel
theorem d_X12_spent_8 : decode mX12_spent.2.2.1 8 = .ok (.iload_n 1, 1) := by decide +kernel
theorem d_X12_spent_9 : decode mX12_spent.2.2.1 9 = .ok (.invokevirtual 555, 3) := by decide +kernel
theorem d_X12_spent_12 : decode mX12_spent.2.2.1 12 = .ok (.ifCond .eq 25, 3) := by decide +kernel
theorem d_X12_spent_15 : decode mX12_spent.2.2.1 15 = .ok (.iload_n 2, 1) := by decide +kernel
theorem d_X12_spent_16 : decode mX12_spent.2.2.1 16 = .ok (.iconst 0, 1) := by decide +kernel
theorem d_X12_spent_17 : decode mX12_spent.2.2.1 17 = .ok (.iconst 3, 1) := by decide +kernel
theorem d_X12_spent_18 : decode mX12_spent.2.2.1 18 = .ok (.invokestatic 467, 3) := by decide +kernel
theorem d_X12_spent_21 : decode mX12_spent.2.2.1 21 = .ok (.ifCond .eq 16, 3) := by decide +kernel
theorem d_X12_spent_24 : decode mX12_spent.2.2.1 24 = .ok (.aload_n 0, 1) := by decide +kernel
theorem d_X12_spent_25 : decode mX12_spent.2.2.1 25 = .ok (.getfield 294, 3) := by decide +kernel
theorem d_X12_spent_28 : decode mX12_spent.2.2.1 28 = .ok (.iconst 4, 1) := by decide +kernel
theorem d_X12_spent_29 : decode mX12_spent.2.2.1 29 = .ok (.iload_n 1, 1) := by decide +kernel
theorem d_X12_spent_30 : decode mX12_spent.2.2.1 30 = .ok (.imul, 1) := by decide +kernel
theorem d_X12_spent_31 : decode mX12_spent.2.2.1 31 = .ok (.iload_n 2, 1) := by decide +kernel
theorem d_X12_spent_32 : decode mX12_spent.2.2.1 32 = .ok (.iadd, 1) := by decide +kernel
theorem d_X12_spent_33 : decode mX12_spent.2.2.1 33 = .ok (.iaload, 1) := by decide +kernel
theorem d_X12_spent_34 : decode mX12_spent.2.2.1 34 = .ok (.goto 4, 3) := by decide +kernel
def mX12_pays : MD := (12, yX12_pays, cX12_pays, 8, some .int)
theorem d_X12_pays_0 : decode mX12_pays.2.2.1 0 = .ok (.aload_n 0, 1) := by decide +kernel
theorem d_X12_pays_1 : decode mX12_pays.2.2.1 1 = .ok (.getfield 270, 3) := by decide +kernel
theorem d_X12_pays_4 : decode mX12_pays.2.2.1 4 = .ok (.ifCond .eq 25, 3) := by decide +kernel
theorem d_X12_pays_29 : decode mX12_pays.2.2.1 29 = .ok (.iconst (-1), 1) := by decide +kernel
theorem d_X12_pays_30 : decode mX12_pays.2.2.1 30 = .ok (.ireturn, 1) := by decide +kernel
theorem d_X12_pays_7 : decode mX12_pays.2.2.1 7 = .ok (.iload_n 2, 1) := by decide +kernel
theorem d_X12_pays_8 : decode mX12_pays.2.2.1 8 = .ok (.iconst 0, 1) := by decide +kernel
theorem d_X12_pays_9 : decode mX12_pays.2.2.1 9 = .ok (.iconst 1, 1) := by decide +kernel
theorem d_X12_pays_10 : decode mX12_pays.2.2.1 10 = .ok (.invokestatic 467, 3) := by decide +kernel
theorem d_X12_pays_13 : decode mX12_pays.2.2.1 13 = .ok (.ifCond .eq 16, 3) := by decide +kernel
theorem d_X12_pays_16 : decode mX12_pays.2.2.1 16 = .ok (.iload_n 1, 1) := by decide +kernel
theorem d_X12_pays_17 : decode mX12_pays.2.2.1 17 = .ok (.iconst (-1), 1) := by decide +kernel
theorem d_X12_pays_18 : decode mX12_pays.2.2.1 18 = .ok (.if_icmp .eq 13, 3) := by decide +kernel
theorem d_X12_pays_21 : decode mX12_pays.2.2.1 21 = .ok (.aload_n 0, 1) := by decide +kernel
theorem d_X12_pays_22 : decode mX12_pays.2.2.1 22 = .ok (.iload_n 1, 1) := by decide +kernel
theorem d_X12_pays_23 : decode mX12_pays.2.2.1 23 = .ok (.invokevirtual 656, 3) := by decide +kernel
def mX12_isLine : MD := (12, yX12_isLine, cX12_isLine, 2, some .boolean)
theorem sel_X12_isLine : Cond.instanceMethod mX12_isLine.2.1 ∈ tblG ∧ Cond.selects mX12_isLine.2.1.cls mX12_isLine.2.1 mX12_isLine.2.1 ∈ tblG := ⟨tblG_in (inT9 (List.mem_of_getElem? (i := 180) rfl)) rfl, tblG_in (inP8 (q := (mX12_isLine.2.1, 121)) (List.mem_of_getElem? (i := 15) rfl)) rfl⟩
theorem s_12_656 : e_siteV 12 656 mX12_isLine 12 := ⟨tblG_in (inT9 (List.mem_of_getElem? (i := 178) rfl)) rfl, sel_X12_isLine.1, sel_X12_isLine.2, rfl⟩
theorem d_X12_isLine_0 : decode mX12_isLine.2.2.1 0 = .ok (.iload_n 1, 1) := by decide +kernel
theorem d_X12_isLine_1 : decode mX12_isLine.2.2.1 1 = .ok (.iconst 0, 1) := by decide +kernel
theorem d_X12_isLine_2 : decode mX12_isLine.2.2.1 2 = .ok (.aload_n 0, 1) := by decide +kernel
theorem d_X12_isLine_3 : decode mX12_isLine.2.2.1 3 = .ok (.getfield 72, 3) := by decide +kernel
theorem d_X12_isLine_6 : decode mX12_isLine.2.2.1 6 = .ok (.aload_n 0, 1) := by decide +kernel
theorem d_X12_isLine_7 : decode mX12_isLine.2.2.1 7 = .ok (.getfield 48, 3) := by decide +kernel
theorem d_X12_isLine_10 : decode mX12_isLine.2.2.1 10 = .ok (.iaload, 1) := by decide +kernel
theorem d_X12_isLine_11 : decode mX12_isLine.2.2.1 11 = .ok (.iconst 1, 1) := by decide +kernel
theorem d_X12_isLine_12 : decode mX12_isLine.2.2.1 12 = .ok (.isub, 1) := by decide +kernel
theorem d_X12_isLine_13 : decode mX12_isLine.2.2.1 13 = .ok (.invokestatic 467, 3) := by decide +kernel
theorem d_X12_isLine_16 : decode mX12_isLine.2.2.1 16 = .ok (.ireturn, 1) := by decide +kernel
theorem ok_X12_isLine : e_m mX12_isLine 1 := ⟨tblG_in (inT9 (List.mem_of_getElem? (i := 181) rfl)) rfl, plainFor_of_name (by decide), rfl, ini_12, by decide +kernel, by decide⟩
theorem d_X12_pays_26 : decode mX12_pays.2.2.1 26 = .ok (.ifCond .ne 5, 3) := by decide +kernel
theorem d_X12_pays_31 : decode mX12_pays.2.2.1 31 = .ok (.lconst 0, 1) := by decide +kernel
theorem d_X12_pays_32 : decode mX12_pays.2.2.1 32 = .ok (.lstore_n 3, 1) := by decide +kernel
theorem d_X12_pays_33 : decode mX12_pays.2.2.1 33 = .ok (.iconst 0, 1) := by decide +kernel
theorem d_X12_pays_34 : decode mX12_pays.2.2.1 34 = .ok (.istore 5, 2) := by decide +kernel
theorem d_X12_pays_36 : decode mX12_pays.2.2.1 36 = .ok (.iload 5, 2) := by decide +kernel
theorem d_X12_pays_38 : decode mX12_pays.2.2.1 38 = .ok (.aload_n 0, 1) := by decide +kernel
theorem d_X12_pays_39 : decode mX12_pays.2.2.1 39 = .ok (.getfield 273, 3) := by decide +kernel
theorem d_X12_pays_42 : decode mX12_pays.2.2.1 42 = .ok (.if_icmp .ge 143, 3) := by decide +kernel
theorem d_X12_pays_185 : decode mX12_pays.2.2.1 185 = .ok (.iconst 0, 1) := by decide +kernel
theorem d_X12_pays_186 : decode mX12_pays.2.2.1 186 = .ok (.istore 5, 2) := by decide +kernel
theorem d_X12_pays_45 : decode mX12_pays.2.2.1 45 = .ok (.iload_n 1, 1) := by decide +kernel
theorem d_X12_pays_46 : decode mX12_pays.2.2.1 46 = .ok (.iconst (-1), 1) := by decide +kernel
theorem d_X12_pays_47 : decode mX12_pays.2.2.1 47 = .ok (.if_icmp .eq 27, 3) := by decide +kernel
theorem d_X12_pays_50 : decode mX12_pays.2.2.1 50 = .ok (.aload_n 0, 1) := by decide +kernel
theorem d_X12_pays_51 : decode mX12_pays.2.2.1 51 = .ok (.getfield 228, 3) := by decide +kernel
theorem d_X12_pays_54 : decode mX12_pays.2.2.1 54 = .ok (.iload 5, 2) := by decide +kernel
theorem d_X12_pays_56 : decode mX12_pays.2.2.1 56 = .ok (.iaload, 1) := by decide +kernel
theorem d_X12_pays_57 : decode mX12_pays.2.2.1 57 = .ok (.iload_n 1, 1) := by decide +kernel
theorem d_X12_pays_58 : decode mX12_pays.2.2.1 58 = .ok (.if_icmp .ne 16, 3) := by decide +kernel
theorem d_X12_pays_61 : decode mX12_pays.2.2.1 61 = .ok (.lload_n 3, 1) := by decide +kernel
theorem d_X12_pays_62 : decode mX12_pays.2.2.1 62 = .ok (.aload_n 0, 1) := by decide +kernel
theorem d_X12_pays_63 : decode mX12_pays.2.2.1 63 = .ok (.getfield 51, 3) := by decide +kernel
theorem d_X12_pays_66 : decode mX12_pays.2.2.1 66 = .ok (.aload_n 0, 1) := by decide +kernel
theorem d_X12_pays_67 : decode mX12_pays.2.2.1 67 = .ok (.getfield 48, 3) := by decide +kernel
theorem d_X12_pays_70 : decode mX12_pays.2.2.1 70 = .ok (.iaload, 1) := by decide +kernel
theorem d_X12_pays_71 : decode mX12_pays.2.2.1 71 = .ok (.i2l, 1) := by decide +kernel
theorem d_X12_pays_72 : decode mX12_pays.2.2.1 72 = .ok (.ladd, 1) := by decide +kernel
theorem d_X12_pays_73 : decode mX12_pays.2.2.1 73 = .ok (.lstore_n 3, 1) := by decide +kernel
theorem d_X12_pays_188 : decode mX12_pays.2.2.1 188 = .ok (.iload 5, 2) := by decide +kernel
theorem d_X12_pays_190 : decode mX12_pays.2.2.1 190 = .ok (.aload_n 0, 1) := by decide +kernel
theorem d_X12_pays_191 : decode mX12_pays.2.2.1 191 = .ok (.getfield 63, 3) := by decide +kernel
theorem d_X12_pays_194 : decode mX12_pays.2.2.1 194 = .ok (.aload_n 0, 1) := by decide +kernel
theorem d_X12_pays_195 : decode mX12_pays.2.2.1 195 = .ok (.getfield 48, 3) := by decide +kernel
theorem d_X12_pays_198 : decode mX12_pays.2.2.1 198 = .ok (.iaload, 1) := by decide +kernel
theorem d_X12_pays_199 : decode mX12_pays.2.2.1 199 = .ok (.if_icmp .ge 29, 3) := by decide +kernel
theorem d_X12_pays_228 : decode mX12_pays.2.2.1 228 = .ok (.lload_n 3, 1) := by decide +kernel
theorem d_X12_pays_229 : decode mX12_pays.2.2.1 229 = .ok (.l2i, 1) := by decide +kernel
theorem d_X12_pays_230 : decode mX12_pays.2.2.1 230 = .ok (.ireturn, 1) := by decide +kernel
theorem d_X12_pays_202 : decode mX12_pays.2.2.1 202 = .ok (.iload_n 1, 1) := by decide +kernel
theorem d_X12_pays_203 : decode mX12_pays.2.2.1 203 = .ok (.iconst (-1), 1) := by decide +kernel
theorem d_X12_pays_204 : decode mX12_pays.2.2.1 204 = .ok (.if_icmp .eq 24, 3) := by decide +kernel
theorem d_X12_pays_207 : decode mX12_pays.2.2.1 207 = .ok (.iload_n 2, 1) := by decide +kernel
theorem d_X12_pays_208 : decode mX12_pays.2.2.1 208 = .ok (.iconst 1, 1) := by decide +kernel
theorem d_X12_pays_209 : decode mX12_pays.2.2.1 209 = .ok (.if_icmp .ne 19, 3) := by decide +kernel
theorem d_X12_pays_212 : decode mX12_pays.2.2.1 212 = .ok (.lload_n 3, 1) := by decide +kernel
theorem d_X12_pays_213 : decode mX12_pays.2.2.1 213 = .ok (.aload_n 0, 1) := by decide +kernel
theorem d_X12_pays_214 : decode mX12_pays.2.2.1 214 = .ok (.iload 5, 2) := by decide +kernel
theorem d_X12_pays_216 : decode mX12_pays.2.2.1 216 = .ok (.iload_n 1, 1) := by decide +kernel
theorem d_X12_pays_217 : decode mX12_pays.2.2.1 217 = .ok (.invokevirtual 659, 3) := by decide +kernel
def mX12_sharesOf : MD := (12, yX12_sharesOf, cX12_sharesOf, 12, some .long)
theorem sel_X12_sharesOf : Cond.instanceMethod mX12_sharesOf.2.1 ∈ tblG ∧ Cond.selects mX12_sharesOf.2.1.cls mX12_sharesOf.2.1 mX12_sharesOf.2.1 ∈ tblG := ⟨tblG_in (inT9 (List.mem_of_getElem? (i := 184) rfl)) rfl, tblG_in (inP9 (q := (mX12_sharesOf.2.1, 121)) (List.mem_of_getElem? (i := 0) rfl)) rfl⟩
theorem s_12_659 : e_siteV 12 659 mX12_sharesOf 12 := ⟨tblG_in (inT9 (List.mem_of_getElem? (i := 182) rfl)) rfl, sel_X12_sharesOf.1, sel_X12_sharesOf.2, rfl⟩
