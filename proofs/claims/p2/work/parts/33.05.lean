theorem d_X3_which_1 : decode mX3_which.2.2.1 1 = .ok (.getstatic 65, 3) := by decide +kernel
theorem d_X3_which_4 : decode mX3_which.2.2.1 4 = .ok (.iload_n 1, 1) := by decide +kernel
theorem d_X3_which_5 : decode mX3_which.2.2.1 5 = .ok (.iaload, 1) := by decide +kernel
theorem d_X3_which_6 : decode mX3_which.2.2.1 6 = .ok (.isub, 1) := by decide +kernel
theorem d_X3_which_7 : decode mX3_which.2.2.1 7 = .ok (.istore_n 3, 1) := by decide +kernel
theorem d_X3_which_8 : decode mX3_which.2.2.1 8 = .ok (.iload_n 3, 1) := by decide +kernel
theorem d_X3_which_9 : decode mX3_which.2.2.1 9 = .ok (.ifCond .lt 17, 3) := by decide +kernel
theorem d_X3_which_26 : decode mX3_which.2.2.1 26 = .ok (.iconst (-1), 1) := by decide +kernel
theorem d_X3_which_27 : decode mX3_which.2.2.1 27 = .ok (.ireturn, 1) := by decide +kernel
theorem d_X3_which_12 : decode mX3_which.2.2.1 12 = .ok (.iload_n 3, 1) := by decide +kernel
theorem d_X3_which_13 : decode mX3_which.2.2.1 13 = .ok (.aload_n 0, 1) := by decide +kernel
theorem d_X3_which_14 : decode mX3_which.2.2.1 14 = .ok (.getfield 11, 3) := by decide +kernel
theorem d_X3_which_17 : decode mX3_which.2.2.1 17 = .ok (.iload_n 1, 1) := by decide +kernel
theorem d_X3_which_18 : decode mX3_which.2.2.1 18 = .ok (.iaload, 1) := by decide +kernel
theorem d_X3_which_19 : decode mX3_which.2.2.1 19 = .ok (.if_icmp .ge 7, 3) := by decide +kernel
theorem d_X3_which_22 : decode mX3_which.2.2.1 22 = .ok (.iload_n 3, 1) := by decide +kernel
theorem d_X3_which_23 : decode mX3_which.2.2.1 23 = .ok (.goto 4, 3) := by decide +kernel
theorem ok_X3_which : e_m mX3_which 2 := ⟨tblG_in (inT4 (List.mem_of_getElem? (i := 121) rfl)) rfl, plainFor_of_name (by decide), rfl, ini_3, by decide +kernel, by decide⟩
theorem d_X5_namedPiece_33 : decode mX5_namedPiece.2.2.1 33 = .ok (.ifCond .lt 25, 3) := by decide +kernel
theorem d_X5_namedPiece_36 : decode mX5_namedPiece.2.2.1 36 = .ok (.aload_n 0, 1) := by decide +kernel
theorem d_X5_namedPiece_37 : decode mX5_namedPiece.2.2.1 37 = .ok (.getfield 32, 3) := by decide +kernel
theorem d_X5_namedPiece_40 : decode mX5_namedPiece.2.2.1 40 = .ok (.iconst 1, 1) := by decide +kernel
theorem d_X5_namedPiece_41 : decode mX5_namedPiece.2.2.1 41 = .ok (.aload_n 0, 1) := by decide +kernel
theorem d_X5_namedPiece_42 : decode mX5_namedPiece.2.2.1 42 = .ok (.getfield 22, 3) := by decide +kernel
theorem d_X5_namedPiece_45 : decode mX5_namedPiece.2.2.1 45 = .ok (.iconst 1, 1) := by decide +kernel
theorem d_X5_namedPiece_46 : decode mX5_namedPiece.2.2.1 46 = .ok (.iload_n 1, 1) := by decide +kernel
theorem d_X5_namedPiece_47 : decode mX5_namedPiece.2.2.1 47 = .ok (.invokevirtual 94, 3) := by decide +kernel
theorem d_X5_namedPiece_50 : decode mX5_namedPiece.2.2.1 50 = .ok (.invokevirtual 215, 3) := by decide +kernel
theorem d_X5_namedPiece_53 : decode mX5_namedPiece.2.2.1 53 = .ok (.aload_n 0, 1) := by decide +kernel
theorem d_X5_namedPiece_54 : decode mX5_namedPiece.2.2.1 54 = .ok (.invokevirtual 74, 3) := by decide +kernel
theorem d_X5_namedPiece_57 : decode mX5_namedPiece.2.2.1 57 = .ok (.ireturn, 1) := by decide +kernel
theorem d_X5_namedPiece_58 : decode mX5_namedPiece.2.2.1 58 = .ok (.aload_n 0, 1) := by decide +kernel
theorem d_X5_namedPiece_59 : decode mX5_namedPiece.2.2.1 59 = .ok (.iconst 2, 1) := by decide +kernel
theorem d_X5_namedPiece_60 : decode mX5_namedPiece.2.2.1 60 = .ok (.invokevirtual 186, 3) := by decide +kernel
def mX5_takeName : MD := (5, yX5_takeName, cX5_takeName, 4, some .int)
theorem sel_X5_takeName : Cond.instanceMethod mX5_takeName.2.1 ∈ tblG ∧ Cond.selects mX5_takeName.2.1.cls mX5_takeName.2.1 mX5_takeName.2.1 ∈ tblG := ⟨tblG_in (inT4 (List.mem_of_getElem? (i := 116) rfl)) rfl, tblG_in (inP2 (q := (mX5_takeName.2.1, 7)) (List.mem_of_getElem? (i := 11) rfl)) rfl⟩
theorem s_5_186 : e_siteV 5 186 mX5_takeName 5 := ⟨tblG_in (inT4 (List.mem_of_getElem? (i := 114) rfl)) rfl, sel_X5_takeName.1, sel_X5_takeName.2, rfl⟩
theorem d_X5_takeName_0 : decode mX5_takeName.2.2.1 0 = .ok (.aload_n 0, 1) := by decide +kernel
theorem d_X5_takeName_1 : decode mX5_takeName.2.2.1 1 = .ok (.getfield 18, 3) := by decide +kernel
theorem d_X5_takeName_4 : decode mX5_takeName.2.2.1 4 = .ok (.getfield 50, 3) := by decide +kernel
theorem d_X5_takeName_7 : decode mX5_takeName.2.2.1 7 = .ok (.aload_n 0, 1) := by decide +kernel
theorem d_X5_takeName_8 : decode mX5_takeName.2.2.1 8 = .ok (.getfield 36, 3) := by decide +kernel
theorem d_X5_takeName_11 : decode mX5_takeName.2.2.1 11 = .ok (.iaload, 1) := by decide +kernel
theorem d_X5_takeName_12 : decode mX5_takeName.2.2.1 12 = .ok (.iconst 3, 1) := by decide +kernel
theorem d_X5_takeName_13 : decode mX5_takeName.2.2.1 13 = .ok (.if_icmp .eq 11, 3) := by decide +kernel
theorem d_X5_takeName_24 : decode mX5_takeName.2.2.1 24 = .ok (.aload_n 0, 1) := by decide +kernel
theorem d_X5_takeName_25 : decode mX5_takeName.2.2.1 25 = .ok (.getfield 22, 3) := by decide +kernel
theorem d_X5_takeName_28 : decode mX5_takeName.2.2.1 28 = .ok (.aload_n 0, 1) := by decide +kernel
theorem d_X5_takeName_29 : decode mX5_takeName.2.2.1 29 = .ok (.getfield 18, 3) := by decide +kernel
theorem d_X5_takeName_32 : decode mX5_takeName.2.2.1 32 = .ok (.getfield 68, 3) := by decide +kernel
theorem d_X5_takeName_35 : decode mX5_takeName.2.2.1 35 = .ok (.aload_n 0, 1) := by decide +kernel
theorem d_X5_takeName_36 : decode mX5_takeName.2.2.1 36 = .ok (.getfield 36, 3) := by decide +kernel
theorem d_X5_takeName_39 : decode mX5_takeName.2.2.1 39 = .ok (.iaload, 1) := by decide +kernel
theorem d_X5_takeName_40 : decode mX5_takeName.2.2.1 40 = .ok (.invokevirtual 91, 3) := by decide +kernel
theorem d_X5_takeName_43 : decode mX5_takeName.2.2.1 43 = .ok (.istore_n 2, 1) := by decide +kernel
theorem d_X5_takeName_44 : decode mX5_takeName.2.2.1 44 = .ok (.iload_n 2, 1) := by decide +kernel
theorem d_X5_takeName_45 : decode mX5_takeName.2.2.1 45 = .ok (.ifCond .ge 7, 3) := by decide +kernel
theorem d_X5_takeName_52 : decode mX5_takeName.2.2.1 52 = .ok (.aload_n 0, 1) := by decide +kernel
theorem d_X5_takeName_53 : decode mX5_takeName.2.2.1 53 = .ok (.getfield 22, 3) := by decide +kernel
theorem d_X5_takeName_56 : decode mX5_takeName.2.2.1 56 = .ok (.iload_n 1, 1) := by decide +kernel
theorem d_X5_takeName_57 : decode mX5_takeName.2.2.1 57 = .ok (.iload_n 2, 1) := by decide +kernel
theorem d_X5_takeName_58 : decode mX5_takeName.2.2.1 58 = .ok (.invokevirtual 94, 3) := by decide +kernel
theorem d_X5_takeName_48 : decode mX5_takeName.2.2.1 48 = .ok (.iconst (-1), 1) := by decide +kernel
theorem d_X5_takeName_49 : decode mX5_takeName.2.2.1 49 = .ok (.goto 12, 3) := by decide +kernel
theorem d_X5_takeName_16 : decode mX5_takeName.2.2.1 16 = .ok (.aload_n 0, 1) := by decide +kernel
theorem d_X5_takeName_17 : decode mX5_takeName.2.2.1 17 = .ok (.iconst 1, 1) := by decide +kernel
theorem d_X5_takeName_18 : decode mX5_takeName.2.2.1 18 = .ok (.invokevirtual 56, 3) := by decide +kernel
theorem d_X5_takeName_21 : decode mX5_takeName.2.2.1 21 = .ok (.pop, 1) := by decide +kernel
theorem d_X5_takeName_22 : decode mX5_takeName.2.2.1 22 = .ok (.iconst (-1), 1) := by decide +kernel
theorem d_X5_takeName_23 : decode mX5_takeName.2.2.1 23 = .ok (.ireturn, 1) := by decide +kernel
theorem d_X5_takeName_61 : decode mX5_takeName.2.2.1 61 = .ok (.istore_n 3, 1) := by decide +kernel
theorem d_X5_takeName_62 : decode mX5_takeName.2.2.1 62 = .ok (.iload_n 3, 1) := by decide +kernel
theorem d_X5_takeName_63 : decode mX5_takeName.2.2.1 63 = .ok (.ifCond .ge 11, 3) := by decide +kernel
theorem d_X5_takeName_74 : decode mX5_takeName.2.2.1 74 = .ok (.aload_n 0, 1) := by decide +kernel
theorem d_X5_takeName_75 : decode mX5_takeName.2.2.1 75 = .ok (.invokevirtual 74, 3) := by decide +kernel
theorem d_X5_takeName_78 : decode mX5_takeName.2.2.1 78 = .ok (.pop, 1) := by decide +kernel
theorem d_X5_takeName_79 : decode mX5_takeName.2.2.1 79 = .ok (.iload_n 3, 1) := by decide +kernel
theorem d_X5_takeName_80 : decode mX5_takeName.2.2.1 80 = .ok (.ireturn, 1) := by decide +kernel
theorem d_X5_takeName_66 : decode mX5_takeName.2.2.1 66 = .ok (.aload_n 0, 1) := by decide +kernel
theorem d_X5_takeName_67 : decode mX5_takeName.2.2.1 67 = .ok (.iconst 3, 1) := by decide +kernel
theorem d_X5_takeName_68 : decode mX5_takeName.2.2.1 68 = .ok (.invokevirtual 56, 3) := by decide +kernel
theorem d_X5_takeName_71 : decode mX5_takeName.2.2.1 71 = .ok (.pop, 1) := by decide +kernel
theorem d_X5_takeName_72 : decode mX5_takeName.2.2.1 72 = .ok (.iconst (-1), 1) := by decide +kernel
theorem d_X5_takeName_73 : decode mX5_takeName.2.2.1 73 = .ok (.ireturn, 1) := by decide +kernel
theorem ok_X5_takeName : e_m mX5_takeName 1 := ⟨tblG_in (inT4 (List.mem_of_getElem? (i := 117) rfl)) rfl, plainFor_of_name (by decide), rfl, ini_5, by decide +kernel, by decide⟩
theorem d_X5_namedPiece_63 : decode mX5_namedPiece.2.2.1 63 = .ok (.istore_n 2, 1) := by decide +kernel
theorem d_X5_namedPiece_64 : decode mX5_namedPiece.2.2.1 64 = .ok (.aload_n 0, 1) := by decide +kernel
theorem d_X5_namedPiece_65 : decode mX5_namedPiece.2.2.1 65 = .ok (.getfield 32, 3) := by decide +kernel
theorem d_X5_namedPiece_68 : decode mX5_namedPiece.2.2.1 68 = .ok (.iconst 2, 1) := by decide +kernel
theorem d_X5_namedPiece_69 : decode mX5_namedPiece.2.2.1 69 = .ok (.iload_n 2, 1) := by decide +kernel
theorem d_X5_namedPiece_70 : decode mX5_namedPiece.2.2.1 70 = .ok (.iconst 0, 1) := by decide +kernel
theorem d_X5_namedPiece_71 : decode mX5_namedPiece.2.2.1 71 = .ok (.invokestatic 192, 3) := by decide +kernel
theorem ml_5_192 : Cond.methodLink (e_cn 5) 192 Lib.Math.max.name ∈ tblG := tblG_in (inT4 (List.mem_of_getElem? (i := 122) rfl)) rfl
theorem d_X5_namedPiece_74 : decode mX5_namedPiece.2.2.1 74 = .ok (.invokevirtual 215, 3) := by decide +kernel
theorem d_X5_namedPiece_77 : decode mX5_namedPiece.2.2.1 77 = .ok (.iload_n 2, 1) := by decide +kernel
theorem d_X5_namedPiece_78 : decode mX5_namedPiece.2.2.1 78 = .ok (.ifCond .lt 7, 3) := by decide +kernel
theorem d_X5_namedPiece_85 : decode mX5_namedPiece.2.2.1 85 = .ok (.iconst 0, 1) := by decide +kernel
theorem d_X5_namedPiece_86 : decode mX5_namedPiece.2.2.1 86 = .ok (.ireturn, 1) := by decide +kernel
theorem d_X5_namedPiece_81 : decode mX5_namedPiece.2.2.1 81 = .ok (.iconst 1, 1) := by decide +kernel
theorem d_X5_namedPiece_82 : decode mX5_namedPiece.2.2.1 82 = .ok (.goto 4, 3) := by decide +kernel
theorem ok_X5_namedPiece : e_m mX5_namedPiece 0 := ⟨tblG_in (inT4 (List.mem_of_getElem? (i := 142) rfl)) rfl, plainFor_of_name (by decide), rfl, ini_5, by decide +kernel, by decide⟩
theorem d_X5_piece_64 : decode mX5_piece.2.2.1 64 = .ok (.ireturn, 1) := by decide +kernel
theorem d_X5_piece_16 : decode mX5_piece.2.2.1 16 = .ok (.aload_n 0, 1) := by decide +kernel
theorem d_X5_piece_17 : decode mX5_piece.2.2.1 17 = .ok (.iconst 0, 1) := by decide +kernel
theorem d_X5_piece_18 : decode mX5_piece.2.2.1 18 = .ok (.sipush 999, 3) := by decide +kernel
theorem d_X5_piece_21 : decode mX5_piece.2.2.1 21 = .ok (.invokevirtual 87, 3) := by decide +kernel
theorem d_X5_piece_24 : decode mX5_piece.2.2.1 24 = .ok (.istore_n 1, 1) := by decide +kernel
theorem d_X5_piece_25 : decode mX5_piece.2.2.1 25 = .ok (.aload_n 0, 1) := by decide +kernel
theorem d_X5_piece_26 : decode mX5_piece.2.2.1 26 = .ok (.getfield 32, 3) := by decide +kernel
theorem d_X5_piece_29 : decode mX5_piece.2.2.1 29 = .ok (.iconst 0, 1) := by decide +kernel
theorem d_X5_piece_30 : decode mX5_piece.2.2.1 30 = .ok (.iload_n 1, 1) := by decide +kernel
theorem d_X5_piece_31 : decode mX5_piece.2.2.1 31 = .ok (.invokevirtual 215, 3) := by decide +kernel
theorem d_X5_piece_34 : decode mX5_piece.2.2.1 34 = .ok (.iload_n 1, 1) := by decide +kernel
theorem d_X5_piece_35 : decode mX5_piece.2.2.1 35 = .ok (.ifCond .lt 7, 3) := by decide +kernel
theorem d_X5_piece_42 : decode mX5_piece.2.2.1 42 = .ok (.iconst 0, 1) := by decide +kernel
theorem d_X5_piece_43 : decode mX5_piece.2.2.1 43 = .ok (.ireturn, 1) := by decide +kernel
theorem d_X5_piece_38 : decode mX5_piece.2.2.1 38 = .ok (.iconst 1, 1) := by decide +kernel
theorem d_X5_piece_39 : decode mX5_piece.2.2.1 39 = .ok (.goto 4, 3) := by decide +kernel
theorem d_X5_piece_146 : decode mX5_piece.2.2.1 146 = .ok (.aload_n 0, 1) := by decide +kernel
theorem d_X5_piece_147 : decode mX5_piece.2.2.1 147 = .ok (.aload_n 0, 1) := by decide +kernel
theorem d_X5_piece_148 : decode mX5_piece.2.2.1 148 = .ok (.bipush 25, 2) := by decide +kernel
theorem d_X5_piece_150 : decode mX5_piece.2.2.1 150 = .ok (.invokevirtual 71, 3) := by decide +kernel
theorem d_X5_piece_153 : decode mX5_piece.2.2.1 153 = .ok (.ifCond .eq 8, 3) := by decide +kernel
theorem d_X5_piece_161 : decode mX5_piece.2.2.1 161 = .ok (.bipush 12, 2) := by decide +kernel
theorem d_X5_piece_156 : decode mX5_piece.2.2.1 156 = .ok (.bipush 11, 2) := by decide +kernel
theorem d_X5_piece_158 : decode mX5_piece.2.2.1 158 = .ok (.goto 5, 3) := by decide +kernel
theorem d_X5_piece_163 : decode mX5_piece.2.2.1 163 = .ok (.invokevirtual 233, 3) := by decide +kernel
theorem sel_X5_choice : Cond.instanceMethod mX5_choice.2.1 ∈ tblG ∧ Cond.selects mX5_choice.2.1.cls mX5_choice.2.1 mX5_choice.2.1 ∈ tblG := ⟨tblG_in (inT4 (List.mem_of_getElem? (i := 153) rfl)) rfl, tblG_in (inP3 (q := (mX5_choice.2.1, 7)) (List.mem_of_getElem? (i := 2) rfl)) rfl⟩
theorem s_5_233 : e_siteV 5 233 mX5_choice 5 := ⟨tblG_in (inT4 (List.mem_of_getElem? (i := 151) rfl)) rfl, sel_X5_choice.1, sel_X5_choice.2, rfl⟩
theorem ok_X5_choice : e_m mX5_choice 1 := ⟨tblG_in (inT4 (List.mem_of_getElem? (i := 154) rfl)) rfl, plainFor_of_name (by decide), rfl, ini_5, by decide +kernel, by decide⟩
theorem d_X5_piece_166 : decode mX5_piece.2.2.1 166 = .ok (.ireturn, 1) := by decide +kernel
theorem ok_X5_piece : e_m mX5_piece 0 := ⟨tblG_in (inT4 (List.mem_of_getElem? (i := 134) rfl)) rfl, plainFor_of_name (by decide), rfl, ini_5, by decide +kernel, by decide⟩
theorem d_X5_product_4 : decode mX5_product.2.2.1 4 = .ok (.istore_n 1, 1) := by decide +kernel
theorem d_X5_product_5 : decode mX5_product.2.2.1 5 = .ok (.iconst 0, 1) := by decide +kernel
theorem d_X5_product_6 : decode mX5_product.2.2.1 6 = .ok (.istore_n 2, 1) := by decide +kernel
theorem d_X5_product_7 : decode mX5_product.2.2.1 7 = .ok (.iload_n 2, 1) := by decide +kernel
theorem d_X5_product_8 : decode mX5_product.2.2.1 8 = .ok (.sipush 900, 3) := by decide +kernel
theorem d_X5_product_11 : decode mX5_product.2.2.1 11 = .ok (.if_icmp .ge 90, 3) := by decide +kernel
theorem d_X5_product_14 : decode mX5_product.2.2.1 14 = .ok (.iload_n 1, 1) := by decide +kernel
theorem d_X5_product_15 : decode mX5_product.2.2.1 15 = .ok (.ifCond .eq 86, 3) := by decide +kernel
theorem d_X5_product_101 : decode mX5_product.2.2.1 101 = .ok (.iload_n 1, 1) := by decide +kernel
theorem d_X5_product_102 : decode mX5_product.2.2.1 102 = .ok (.ireturn, 1) := by decide +kernel
theorem d_X5_product_18 : decode mX5_product.2.2.1 18 = .ok (.aload_n 0, 1) := by decide +kernel
theorem d_X5_product_19 : decode mX5_product.2.2.1 19 = .ok (.bipush 42, 2) := by decide +kernel
theorem d_X5_product_21 : decode mX5_product.2.2.1 21 = .ok (.invokevirtual 77, 3) := by decide +kernel
theorem d_X5_product_24 : decode mX5_product.2.2.1 24 = .ok (.ifCond .ne 21, 3) := by decide +kernel
theorem d_X5_product_27 : decode mX5_product.2.2.1 27 = .ok (.aload_n 0, 1) := by decide +kernel
theorem d_X5_product_28 : decode mX5_product.2.2.1 28 = .ok (.bipush 47, 2) := by decide +kernel
theorem d_X5_product_30 : decode mX5_product.2.2.1 30 = .ok (.invokevirtual 77, 3) := by decide +kernel
theorem d_X5_product_33 : decode mX5_product.2.2.1 33 = .ok (.ifCond .ne 12, 3) := by decide +kernel
theorem d_X5_product_36 : decode mX5_product.2.2.1 36 = .ok (.aload_n 0, 1) := by decide +kernel
theorem d_X5_product_37 : decode mX5_product.2.2.1 37 = .ok (.bipush 37, 2) := by decide +kernel
theorem d_X5_product_39 : decode mX5_product.2.2.1 39 = .ok (.invokevirtual 77, 3) := by decide +kernel
theorem d_X5_product_42 : decode mX5_product.2.2.1 42 = .ok (.ifCond .eq 59, 3) := by decide +kernel
theorem d_X5_product_45 : decode mX5_product.2.2.1 45 = .ok (.aload_n 0, 1) := by decide +kernel
theorem d_X5_product_46 : decode mX5_product.2.2.1 46 = .ok (.bipush 42, 2) := by decide +kernel
theorem d_X5_product_48 : decode mX5_product.2.2.1 48 = .ok (.invokevirtual 77, 3) := by decide +kernel
theorem d_X5_product_51 : decode mX5_product.2.2.1 51 = .ok (.ifCond .eq 8, 3) := by decide +kernel
theorem d_X5_product_59 : decode mX5_product.2.2.1 59 = .ok (.aload_n 0, 1) := by decide +kernel
theorem d_X5_product_60 : decode mX5_product.2.2.1 60 = .ok (.bipush 47, 2) := by decide +kernel
theorem d_X5_product_62 : decode mX5_product.2.2.1 62 = .ok (.invokevirtual 77, 3) := by decide +kernel
theorem d_X5_product_65 : decode mX5_product.2.2.1 65 = .ok (.ifCond .eq 8, 3) := by decide +kernel
theorem d_X5_product_73 : decode mX5_product.2.2.1 73 = .ok (.bipush 10, 2) := by decide +kernel
theorem d_X5_product_68 : decode mX5_product.2.2.1 68 = .ok (.bipush 9, 2) := by decide +kernel
theorem d_X5_product_70 : decode mX5_product.2.2.1 70 = .ok (.goto 5, 3) := by decide +kernel
theorem d_X5_product_54 : decode mX5_product.2.2.1 54 = .ok (.bipush 8, 2) := by decide +kernel
theorem d_X5_product_56 : decode mX5_product.2.2.1 56 = .ok (.goto 19, 3) := by decide +kernel
theorem d_X5_product_75 : decode mX5_product.2.2.1 75 = .ok (.istore_n 3, 1) := by decide +kernel
theorem d_X5_product_76 : decode mX5_product.2.2.1 76 = .ok (.aload_n 0, 1) := by decide +kernel
theorem d_X5_product_77 : decode mX5_product.2.2.1 77 = .ok (.invokevirtual 74, 3) := by decide +kernel
theorem d_X5_product_80 : decode mX5_product.2.2.1 80 = .ok (.pop, 1) := by decide +kernel
theorem d_X5_product_81 : decode mX5_product.2.2.1 81 = .ok (.aload_n 0, 1) := by decide +kernel
theorem d_X5_product_82 : decode mX5_product.2.2.1 82 = .ok (.invokevirtual 227, 3) := by decide +kernel
theorem d_X5_product_85 : decode mX5_product.2.2.1 85 = .ok (.istore_n 1, 1) := by decide +kernel
theorem d_X5_product_86 : decode mX5_product.2.2.1 86 = .ok (.aload_n 0, 1) := by decide +kernel
theorem d_X5_product_87 : decode mX5_product.2.2.1 87 = .ok (.getfield 32, 3) := by decide +kernel
theorem d_X5_product_90 : decode mX5_product.2.2.1 90 = .ok (.iload_n 3, 1) := by decide +kernel
theorem d_X5_product_91 : decode mX5_product.2.2.1 91 = .ok (.iconst 0, 1) := by decide +kernel
theorem d_X5_product_92 : decode mX5_product.2.2.1 92 = .ok (.invokevirtual 215, 3) := by decide +kernel
theorem d_X5_product_95 : decode mX5_product.2.2.1 95 = .ok (.iinc 2 1, 3) := by decide +kernel
theorem d_X5_product_98 : decode mX5_product.2.2.1 98 = .ok (.goto (-91), 3) := by decide +kernel
theorem ok_X5_product : e_m mX5_product 0 := ⟨tblG_in (inT4 (List.mem_of_getElem? (i := 130) rfl)) rfl, plainFor_of_name (by decide), rfl, ini_5, by decide +kernel, by decide⟩
theorem d_X5_sum_4 : decode mX5_sum.2.2.1 4 = .ok (.istore_n 1, 1) := by decide +kernel
theorem d_X5_sum_5 : decode mX5_sum.2.2.1 5 = .ok (.iconst 0, 1) := by decide +kernel
theorem d_X5_sum_6 : decode mX5_sum.2.2.1 6 = .ok (.istore_n 2, 1) := by decide +kernel
theorem d_X5_sum_7 : decode mX5_sum.2.2.1 7 = .ok (.iload_n 2, 1) := by decide +kernel
theorem d_X5_sum_8 : decode mX5_sum.2.2.1 8 = .ok (.sipush 900, 3) := by decide +kernel
theorem d_X5_sum_11 : decode mX5_sum.2.2.1 11 = .ok (.if_icmp .ge 67, 3) := by decide +kernel
theorem d_X5_sum_14 : decode mX5_sum.2.2.1 14 = .ok (.iload_n 1, 1) := by decide +kernel
theorem d_X5_sum_15 : decode mX5_sum.2.2.1 15 = .ok (.ifCond .eq 63, 3) := by decide +kernel
theorem d_X5_sum_78 : decode mX5_sum.2.2.1 78 = .ok (.iload_n 1, 1) := by decide +kernel
theorem d_X5_sum_79 : decode mX5_sum.2.2.1 79 = .ok (.ireturn, 1) := by decide +kernel
theorem d_X5_sum_18 : decode mX5_sum.2.2.1 18 = .ok (.aload_n 0, 1) := by decide +kernel
theorem d_X5_sum_19 : decode mX5_sum.2.2.1 19 = .ok (.bipush 43, 2) := by decide +kernel
theorem d_X5_sum_21 : decode mX5_sum.2.2.1 21 = .ok (.invokevirtual 77, 3) := by decide +kernel
theorem d_X5_sum_24 : decode mX5_sum.2.2.1 24 = .ok (.ifCond .ne 12, 3) := by decide +kernel
theorem d_X5_sum_27 : decode mX5_sum.2.2.1 27 = .ok (.aload_n 0, 1) := by decide +kernel
theorem d_X5_sum_28 : decode mX5_sum.2.2.1 28 = .ok (.bipush 45, 2) := by decide +kernel
theorem d_X5_sum_30 : decode mX5_sum.2.2.1 30 = .ok (.invokevirtual 77, 3) := by decide +kernel
theorem d_X5_sum_33 : decode mX5_sum.2.2.1 33 = .ok (.ifCond .eq 45, 3) := by decide +kernel
theorem d_X5_sum_36 : decode mX5_sum.2.2.1 36 = .ok (.aload_n 0, 1) := by decide +kernel
theorem d_X5_sum_37 : decode mX5_sum.2.2.1 37 = .ok (.bipush 43, 2) := by decide +kernel
theorem d_X5_sum_39 : decode mX5_sum.2.2.1 39 = .ok (.invokevirtual 77, 3) := by decide +kernel
theorem d_X5_sum_42 : decode mX5_sum.2.2.1 42 = .ok (.ifCond .eq 8, 3) := by decide +kernel
theorem d_X5_sum_50 : decode mX5_sum.2.2.1 50 = .ok (.bipush 7, 2) := by decide +kernel
theorem d_X5_sum_45 : decode mX5_sum.2.2.1 45 = .ok (.bipush 6, 2) := by decide +kernel
theorem d_X5_sum_47 : decode mX5_sum.2.2.1 47 = .ok (.goto 5, 3) := by decide +kernel
theorem d_X5_sum_52 : decode mX5_sum.2.2.1 52 = .ok (.istore_n 3, 1) := by decide +kernel
theorem d_X5_sum_53 : decode mX5_sum.2.2.1 53 = .ok (.aload_n 0, 1) := by decide +kernel
theorem d_X5_sum_54 : decode mX5_sum.2.2.1 54 = .ok (.invokevirtual 74, 3) := by decide +kernel
theorem d_X5_sum_57 : decode mX5_sum.2.2.1 57 = .ok (.pop, 1) := by decide +kernel
theorem d_X5_sum_58 : decode mX5_sum.2.2.1 58 = .ok (.aload_n 0, 1) := by decide +kernel
theorem d_X5_sum_59 : decode mX5_sum.2.2.1 59 = .ok (.invokevirtual 224, 3) := by decide +kernel
theorem d_X5_sum_62 : decode mX5_sum.2.2.1 62 = .ok (.istore_n 1, 1) := by decide +kernel
theorem d_X5_sum_63 : decode mX5_sum.2.2.1 63 = .ok (.aload_n 0, 1) := by decide +kernel
theorem d_X5_sum_64 : decode mX5_sum.2.2.1 64 = .ok (.getfield 32, 3) := by decide +kernel
theorem d_X5_sum_67 : decode mX5_sum.2.2.1 67 = .ok (.iload_n 3, 1) := by decide +kernel
theorem d_X5_sum_68 : decode mX5_sum.2.2.1 68 = .ok (.iconst 0, 1) := by decide +kernel
theorem d_X5_sum_69 : decode mX5_sum.2.2.1 69 = .ok (.invokevirtual 215, 3) := by decide +kernel
theorem d_X5_sum_72 : decode mX5_sum.2.2.1 72 = .ok (.iinc 2 1, 3) := by decide +kernel
theorem d_X5_sum_75 : decode mX5_sum.2.2.1 75 = .ok (.goto (-68), 3) := by decide +kernel
theorem ok_X5_sum : e_m mX5_sum 0 := ⟨tblG_in (inT4 (List.mem_of_getElem? (i := 126) rfl)) rfl, plainFor_of_name (by decide), rfl, ini_5, by decide +kernel, by decide⟩
theorem d_X5_piece_87 : decode mX5_piece.2.2.1 87 = .ok (.ifCond .eq 16, 3) := by decide +kernel
theorem d_X5_piece_90 : decode mX5_piece.2.2.1 90 = .ok (.aload_n 0, 1) := by decide +kernel
theorem d_X5_piece_91 : decode mX5_piece.2.2.1 91 = .ok (.bipush 41, 2) := by decide +kernel
theorem d_X5_piece_93 : decode mX5_piece.2.2.1 93 = .ok (.invokevirtual 209, 3) := by decide +kernel
theorem sel_X5_takeClosing : Cond.instanceMethod mX5_takeClosing.2.1 ∈ tblG ∧ Cond.selects mX5_takeClosing.2.1.cls mX5_takeClosing.2.1 mX5_takeClosing.2.1 ∈ tblG := ⟨tblG_in (inT4 (List.mem_of_getElem? (i := 149) rfl)) rfl, tblG_in (inP3 (q := (mX5_takeClosing.2.1, 7)) (List.mem_of_getElem? (i := 1) rfl)) rfl⟩
theorem s_5_209 : e_siteV 5 209 mX5_takeClosing 5 := ⟨tblG_in (inT4 (List.mem_of_getElem? (i := 147) rfl)) rfl, sel_X5_takeClosing.1, sel_X5_takeClosing.2, rfl⟩
theorem ok_X5_takeClosing : e_m mX5_takeClosing 1 := ⟨tblG_in (inT4 (List.mem_of_getElem? (i := 150) rfl)) rfl, plainFor_of_name (by decide), rfl, ini_5, by decide +kernel, by decide⟩
theorem d_X5_piece_96 : decode mX5_piece.2.2.1 96 = .ok (.ifCond .eq 7, 3) := by decide +kernel
