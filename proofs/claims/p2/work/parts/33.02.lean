theorem d_X7_takeWord_89 : decode mX7_takeWord.2.2.1 89 = .ok (.iload 4, 2) := by decide +kernel
theorem d_X7_takeWord_91 : decode mX7_takeWord.2.2.1 91 = .ok (.iload_n 2, 1) := by decide +kernel
theorem d_X7_takeWord_92 : decode mX7_takeWord.2.2.1 92 = .ok (.invokevirtual 40, 3) := by decide +kernel
theorem d_X7_takeWord_95 : decode mX7_takeWord.2.2.1 95 = .ok (.ireturn, 1) := by decide +kernel
theorem d_X7_takeWord_61 : decode mX7_takeWord.2.2.1 61 = .ok (.aload_n 0, 1) := by decide +kernel
theorem d_X7_takeWord_62 : decode mX7_takeWord.2.2.1 62 = .ok (.iconst 1, 1) := by decide +kernel
theorem d_X7_takeWord_63 : decode mX7_takeWord.2.2.1 63 = .ok (.iload_n 1, 1) := by decide +kernel
theorem d_X7_takeWord_64 : decode mX7_takeWord.2.2.1 64 = .ok (.bipush 6, 2) := by decide +kernel
theorem d_X7_takeWord_66 : decode mX7_takeWord.2.2.1 66 = .ok (.iadd, 1) := by decide +kernel
theorem d_X7_takeWord_67 : decode mX7_takeWord.2.2.1 67 = .ok (.iconst 0, 1) := by decide +kernel
theorem d_X7_takeWord_68 : decode mX7_takeWord.2.2.1 68 = .ok (.iconst (-1), 1) := by decide +kernel
theorem d_X7_takeWord_69 : decode mX7_takeWord.2.2.1 69 = .ok (.invokevirtual 40, 3) := by decide +kernel
theorem d_X7_takeWord_72 : decode mX7_takeWord.2.2.1 72 = .ok (.ireturn, 1) := by decide +kernel
theorem ok_X7_takeWord : e_m mX7_takeWord 1 := ⟨tblG_in (inT3 (List.mem_of_getElem? (i := 132) rfl)) rfl, plainFor_of_name (by decide), rfl, ini_7, by decide +kernel, by decide⟩
theorem d_X7_takeOne_63 : decode mX7_takeOne.2.2.1 63 = .ok (.goto 8, 3) := by decide +kernel
theorem ok_X7_takeOne : e_m mX7_takeOne 2 := ⟨tblG_in (inT3 (List.mem_of_getElem? (i := 118) rfl)) rfl, plainFor_of_name (by decide), rfl, ini_7, by decide +kernel, by decide⟩
theorem d_X7_takeApart_68 : decode mX7_takeApart.2.2.1 68 = .ok (.istore_n 3, 1) := by decide +kernel
theorem d_X7_takeApart_69 : decode mX7_takeApart.2.2.1 69 = .ok (.aload_n 0, 1) := by decide +kernel
theorem d_X7_takeApart_70 : decode mX7_takeApart.2.2.1 70 = .ok (.getfield 29, 3) := by decide +kernel
theorem d_X7_takeApart_73 : decode mX7_takeApart.2.2.1 73 = .ok (.ifCond .le 22, 3) := by decide +kernel
theorem d_X7_takeApart_76 : decode mX7_takeApart.2.2.1 76 = .ok (.aload_n 0, 1) := by decide +kernel
theorem d_X7_takeApart_77 : decode mX7_takeApart.2.2.1 77 = .ok (.getfield 9, 3) := by decide +kernel
theorem d_X7_takeApart_80 : decode mX7_takeApart.2.2.1 80 = .ok (.aload_n 0, 1) := by decide +kernel
theorem d_X7_takeApart_81 : decode mX7_takeApart.2.2.1 81 = .ok (.getfield 29, 3) := by decide +kernel
theorem d_X7_takeApart_84 : decode mX7_takeApart.2.2.1 84 = .ok (.iconst 1, 1) := by decide +kernel
theorem d_X7_takeApart_85 : decode mX7_takeApart.2.2.1 85 = .ok (.isub, 1) := by decide +kernel
theorem d_X7_takeApart_86 : decode mX7_takeApart.2.2.1 86 = .ok (.iaload, 1) := by decide +kernel
theorem d_X7_takeApart_87 : decode mX7_takeApart.2.2.1 87 = .ok (.iconst 5, 1) := by decide +kernel
theorem d_X7_takeApart_88 : decode mX7_takeApart.2.2.1 88 = .ok (.if_icmp .eq 7, 3) := by decide +kernel
theorem d_X7_takeApart_91 : decode mX7_takeApart.2.2.1 91 = .ok (.iconst 1, 1) := by decide +kernel
theorem d_X7_takeApart_92 : decode mX7_takeApart.2.2.1 92 = .ok (.goto 4, 3) := by decide +kernel
theorem d_X7_takeApart_95 : decode mX7_takeApart.2.2.1 95 = .ok (.iconst 0, 1) := by decide +kernel
theorem d_X7_takeApart_96 : decode mX7_takeApart.2.2.1 96 = .ok (.istore 4, 2) := by decide +kernel
theorem d_X7_takeApart_98 : decode mX7_takeApart.2.2.1 98 = .ok (.iinc 5 1, 3) := by decide +kernel
theorem d_X7_takeApart_101 : decode mX7_takeApart.2.2.1 101 = .ok (.goto (-78), 3) := by decide +kernel
theorem d_X7_takeApart_104 : decode mX7_takeApart.2.2.1 104 = .ok (.return_, 1) := by decide +kernel
theorem d_X7_takeApart_47 : decode mX7_takeApart.2.2.1 47 = .ok (.iload 6, 2) := by decide +kernel
theorem d_X7_takeApart_49 : decode mX7_takeApart.2.2.1 49 = .ok (.iload_n 3, 1) := by decide +kernel
theorem d_X7_takeApart_50 : decode mX7_takeApart.2.2.1 50 = .ok (.if_icmp .ne 7, 3) := by decide +kernel
theorem d_X7_takeApart_53 : decode mX7_takeApart.2.2.1 53 = .ok (.iconst 1, 1) := by decide +kernel
theorem d_X7_takeApart_54 : decode mX7_takeApart.2.2.1 54 = .ok (.goto 4, 3) := by decide +kernel
theorem d_X7_takeOne_42 : decode mX7_takeOne.2.2.1 42 = .ok (.aload_n 0, 1) := by decide +kernel
theorem d_X7_takeOne_43 : decode mX7_takeOne.2.2.1 43 = .ok (.iconst 1, 1) := by decide +kernel
theorem d_X7_takeOne_44 : decode mX7_takeOne.2.2.1 44 = .ok (.iload_n 1, 1) := by decide +kernel
theorem d_X7_takeOne_45 : decode mX7_takeOne.2.2.1 45 = .ok (.iconst 0, 1) := by decide +kernel
theorem d_X7_takeOne_46 : decode mX7_takeOne.2.2.1 46 = .ok (.iconst (-1), 1) := by decide +kernel
theorem d_X7_takeOne_47 : decode mX7_takeOne.2.2.1 47 = .ok (.invokevirtual 40, 3) := by decide +kernel
theorem d_X7_takeOne_50 : decode mX7_takeOne.2.2.1 50 = .ok (.ireturn, 1) := by decide +kernel
theorem ok_X7_takeApart : e_m mX7_takeApart 2 := ⟨tblG_in (inT3 (List.mem_of_getElem? (i := 110) rfl)) rfl, plainFor_of_name (by decide), rfl, ini_7, by decide +kernel, by decide⟩
theorem d_X11_text_15 : decode mX11_text.2.2.1 15 = .ok (.aload_n 0, 1) := by decide +kernel
theorem d_X11_text_16 : decode mX11_text.2.2.1 16 = .ok (.iconst 0, 1) := by decide +kernel
theorem d_X11_text_17 : decode mX11_text.2.2.1 17 = .ok (.putfield 84, 3) := by decide +kernel
theorem d_X11_text_20 : decode mX11_text.2.2.1 20 = .ok (.aload_n 0, 1) := by decide +kernel
theorem d_X11_text_21 : decode mX11_text.2.2.1 21 = .ok (.getfield 23, 3) := by decide +kernel
theorem d_X11_text_24 : decode mX11_text.2.2.1 24 = .ok (.aload_n 0, 1) := by decide +kernel
theorem d_X11_text_25 : decode mX11_text.2.2.1 25 = .ok (.getfield 16, 3) := by decide +kernel
theorem d_X11_text_28 : decode mX11_text.2.2.1 28 = .ok (.aload_n 0, 1) := by decide +kernel
theorem d_X11_text_29 : decode mX11_text.2.2.1 29 = .ok (.getfield 34, 3) := by decide +kernel
theorem d_X11_text_32 : decode mX11_text.2.2.1 32 = .ok (.invokevirtual 96, 3) := by decide +kernel
def mX5_read : MD := (5, yX5_read, cX5_read, 3, some .boolean)
theorem sel_X5_read : Cond.instanceMethod mX5_read.2.1 ∈ tblG ∧ Cond.selects mX5_read.2.1.cls mX5_read.2.1 mX5_read.2.1 ∈ tblG := ⟨tblG_in (inT4 (List.mem_of_getElem? (i := 14) rfl)) rfl, tblG_in (inT4 (List.mem_of_getElem? (i := 15) rfl)) rfl⟩
theorem s_11_96 : e_siteV 11 96 mX5_read 5 := ⟨tblG_in (inT4 (List.mem_of_getElem? (i := 13) rfl)) rfl, sel_X5_read.1, sel_X5_read.2, rfl⟩
theorem d_X5_read_0 : decode mX5_read.2.2.1 0 = .ok (.aload_n 0, 1) := by decide +kernel
theorem d_X5_read_1 : decode mX5_read.2.2.1 1 = .ok (.aload_n 1, 1) := by decide +kernel
theorem d_X5_read_2 : decode mX5_read.2.2.1 2 = .ok (.putfield 18, 3) := by decide +kernel
theorem d_X5_read_5 : decode mX5_read.2.2.1 5 = .ok (.aload_n 0, 1) := by decide +kernel
theorem d_X5_read_6 : decode mX5_read.2.2.1 6 = .ok (.aload_n 2, 1) := by decide +kernel
theorem d_X5_read_7 : decode mX5_read.2.2.1 7 = .ok (.putfield 22, 3) := by decide +kernel
theorem d_X5_read_10 : decode mX5_read.2.2.1 10 = .ok (.aload_n 0, 1) := by decide +kernel
theorem d_X5_read_11 : decode mX5_read.2.2.1 11 = .ok (.aload_n 2, 1) := by decide +kernel
theorem d_X5_read_12 : decode mX5_read.2.2.1 12 = .ok (.getfield 26, 3) := by decide +kernel
theorem f_5_26 : e_fld 5 26 3 11 12 2 true := ⟨RX3, TX3, 11, rfl, rfl, by decide, rfl, rfl, rfl, iX3, tblG_in (inT1 (List.mem_of_getElem? (i := 204) rfl)) rfl, tyX3_ok, nmX3⟩
theorem d_X5_read_15 : decode mX5_read.2.2.1 15 = .ok (.putfield 32, 3) := by decide +kernel
theorem d_X5_read_18 : decode mX5_read.2.2.1 18 = .ok (.aload_n 0, 1) := by decide +kernel
theorem d_X5_read_19 : decode mX5_read.2.2.1 19 = .ok (.getfield 22, 3) := by decide +kernel
theorem d_X5_read_22 : decode mX5_read.2.2.1 22 = .ok (.invokevirtual 33, 3) := by decide +kernel
theorem s_5_33 : e_siteV 5 33 mX3_clear 3 := ⟨tblG_in (inT4 (List.mem_of_getElem? (i := 17) rfl)) rfl, sel_X3_clear.1, sel_X3_clear.2, rfl⟩
theorem d_X5_read_25 : decode mX5_read.2.2.1 25 = .ok (.aload_n 0, 1) := by decide +kernel
theorem d_X5_read_26 : decode mX5_read.2.2.1 26 = .ok (.iconst 0, 1) := by decide +kernel
theorem d_X5_read_27 : decode mX5_read.2.2.1 27 = .ok (.putfield 36, 3) := by decide +kernel
theorem d_X5_read_30 : decode mX5_read.2.2.1 30 = .ok (.aload_n 0, 1) := by decide +kernel
theorem d_X5_read_31 : decode mX5_read.2.2.1 31 = .ok (.iconst 0, 1) := by decide +kernel
theorem d_X5_read_32 : decode mX5_read.2.2.1 32 = .ok (.putfield 39, 3) := by decide +kernel
theorem d_X5_read_35 : decode mX5_read.2.2.1 35 = .ok (.aload_n 0, 1) := by decide +kernel
theorem d_X5_read_36 : decode mX5_read.2.2.1 36 = .ok (.iconst 0, 1) := by decide +kernel
theorem d_X5_read_37 : decode mX5_read.2.2.1 37 = .ok (.putfield 9, 3) := by decide +kernel
theorem d_X5_read_40 : decode mX5_read.2.2.1 40 = .ok (.aload_n 0, 1) := by decide +kernel
theorem d_X5_read_41 : decode mX5_read.2.2.1 41 = .ok (.iconst (-1), 1) := by decide +kernel
theorem d_X5_read_42 : decode mX5_read.2.2.1 42 = .ok (.putfield 15, 3) := by decide +kernel
theorem d_X5_read_45 : decode mX5_read.2.2.1 45 = .ok (.aload_n 0, 1) := by decide +kernel
theorem d_X5_read_46 : decode mX5_read.2.2.1 46 = .ok (.invokevirtual 42, 3) := by decide +kernel
def mX5_declarations : MD := (5, yX5_declarations, cX5_declarations, 3, some .boolean)
theorem sel_X5_declarations : Cond.instanceMethod mX5_declarations.2.1 ∈ tblG ∧ Cond.selects mX5_declarations.2.1.cls mX5_declarations.2.1 mX5_declarations.2.1 ∈ tblG := ⟨tblG_in (inT4 (List.mem_of_getElem? (i := 20) rfl)) rfl, tblG_in (inP1 (q := (mX5_declarations.2.1, 7)) (List.mem_of_getElem? (i := 8) rfl)) rfl⟩
theorem s_5_42 : e_siteV 5 42 mX5_declarations 5 := ⟨tblG_in (inT4 (List.mem_of_getElem? (i := 18) rfl)) rfl, sel_X5_declarations.1, sel_X5_declarations.2, rfl⟩
theorem d_X5_declarations_0 : decode mX5_declarations.2.2.1 0 = .ok (.iconst 1, 1) := by decide +kernel
theorem d_X5_declarations_1 : decode mX5_declarations.2.2.1 1 = .ok (.istore_n 1, 1) := by decide +kernel
theorem d_X5_declarations_2 : decode mX5_declarations.2.2.1 2 = .ok (.iconst 0, 1) := by decide +kernel
theorem d_X5_declarations_3 : decode mX5_declarations.2.2.1 3 = .ok (.istore_n 2, 1) := by decide +kernel
theorem d_X5_declarations_4 : decode mX5_declarations.2.2.1 4 = .ok (.iload_n 2, 1) := by decide +kernel
theorem d_X5_declarations_5 : decode mX5_declarations.2.2.1 5 = .ok (.sipush 900, 3) := by decide +kernel
theorem d_X5_declarations_8 : decode mX5_declarations.2.2.1 8 = .ok (.if_icmp .ge 62, 3) := by decide +kernel
theorem d_X5_declarations_11 : decode mX5_declarations.2.2.1 11 = .ok (.iload_n 1, 1) := by decide +kernel
theorem d_X5_declarations_12 : decode mX5_declarations.2.2.1 12 = .ok (.ifCond .eq 58, 3) := by decide +kernel
theorem d_X5_declarations_15 : decode mX5_declarations.2.2.1 15 = .ok (.aload_n 0, 1) := by decide +kernel
theorem d_X5_declarations_16 : decode mX5_declarations.2.2.1 16 = .ok (.getfield 18, 3) := by decide +kernel
theorem d_X5_declarations_19 : decode mX5_declarations.2.2.1 19 = .ok (.getfield 50, 3) := by decide +kernel
theorem d_X5_declarations_22 : decode mX5_declarations.2.2.1 22 = .ok (.aload_n 0, 1) := by decide +kernel
theorem d_X5_declarations_23 : decode mX5_declarations.2.2.1 23 = .ok (.getfield 36, 3) := by decide +kernel
theorem d_X5_declarations_26 : decode mX5_declarations.2.2.1 26 = .ok (.iaload, 1) := by decide +kernel
theorem d_X5_declarations_27 : decode mX5_declarations.2.2.1 27 = .ok (.iconst 2, 1) := by decide +kernel
theorem d_X5_declarations_28 : decode mX5_declarations.2.2.1 28 = .ok (.if_icmp .ne 42, 3) := by decide +kernel
theorem d_X5_declarations_70 : decode mX5_declarations.2.2.1 70 = .ok (.iload_n 1, 1) := by decide +kernel
theorem d_X5_declarations_71 : decode mX5_declarations.2.2.1 71 = .ok (.ireturn, 1) := by decide +kernel
theorem d_X5_declarations_31 : decode mX5_declarations.2.2.1 31 = .ok (.aload_n 0, 1) := by decide +kernel
theorem d_X5_declarations_32 : decode mX5_declarations.2.2.1 32 = .ok (.getfield 18, 3) := by decide +kernel
theorem d_X5_declarations_35 : decode mX5_declarations.2.2.1 35 = .ok (.getfield 68, 3) := by decide +kernel
theorem d_X5_declarations_38 : decode mX5_declarations.2.2.1 38 = .ok (.aload_n 0, 1) := by decide +kernel
theorem d_X5_declarations_39 : decode mX5_declarations.2.2.1 39 = .ok (.getfield 36, 3) := by decide +kernel
theorem d_X5_declarations_42 : decode mX5_declarations.2.2.1 42 = .ok (.iaload, 1) := by decide +kernel
theorem d_X5_declarations_43 : decode mX5_declarations.2.2.1 43 = .ok (.iconst 4, 1) := by decide +kernel
theorem d_X5_declarations_44 : decode mX5_declarations.2.2.1 44 = .ok (.if_icmp .gt 26, 3) := by decide +kernel
theorem d_X5_declarations_47 : decode mX5_declarations.2.2.1 47 = .ok (.aload_n 0, 1) := by decide +kernel
theorem d_X5_declarations_48 : decode mX5_declarations.2.2.1 48 = .ok (.aload_n 0, 1) := by decide +kernel
theorem d_X5_declarations_49 : decode mX5_declarations.2.2.1 49 = .ok (.getfield 18, 3) := by decide +kernel
theorem d_X5_declarations_52 : decode mX5_declarations.2.2.1 52 = .ok (.getfield 68, 3) := by decide +kernel
theorem d_X5_declarations_55 : decode mX5_declarations.2.2.1 55 = .ok (.aload_n 0, 1) := by decide +kernel
theorem d_X5_declarations_56 : decode mX5_declarations.2.2.1 56 = .ok (.getfield 36, 3) := by decide +kernel
theorem d_X5_declarations_59 : decode mX5_declarations.2.2.1 59 = .ok (.iaload, 1) := by decide +kernel
theorem d_X5_declarations_60 : decode mX5_declarations.2.2.1 60 = .ok (.invokevirtual 97, 3) := by decide +kernel
def mX5_declaration : MD := (5, yX5_declaration, cX5_declaration, 2, some .boolean)
theorem sel_X5_declaration : Cond.instanceMethod mX5_declaration.2.1 ∈ tblG ∧ Cond.selects mX5_declaration.2.1.cls mX5_declaration.2.1 mX5_declaration.2.1 ∈ tblG := ⟨tblG_in (inT4 (List.mem_of_getElem? (i := 24) rfl)) rfl, tblG_in (inP1 (q := (mX5_declaration.2.1, 7)) (List.mem_of_getElem? (i := 9) rfl)) rfl⟩
theorem s_5_97 : e_siteV 5 97 mX5_declaration 5 := ⟨tblG_in (inT4 (List.mem_of_getElem? (i := 22) rfl)) rfl, sel_X5_declaration.1, sel_X5_declaration.2, rfl⟩
theorem d_X5_declaration_0 : decode mX5_declaration.2.2.1 0 = .ok (.iload_n 1, 1) := by decide +kernel
theorem d_X5_declaration_1 : decode mX5_declaration.2.2.1 1 = .ok (.tableswitch 51 0 3 #[31, 36, 41, 46], 31) := by decide +kernel
theorem d_X5_declaration_52 : decode mX5_declaration.2.2.1 52 = .ok (.aload_n 0, 1) := by decide +kernel
theorem d_X5_declaration_53 : decode mX5_declaration.2.2.1 53 = .ok (.iconst 2, 1) := by decide +kernel
theorem d_X5_declaration_54 : decode mX5_declaration.2.2.1 54 = .ok (.invokevirtual 112, 3) := by decide +kernel
def mX5_beginNamed : MD := (5, yX5_beginNamed, cX5_beginNamed, 2, some .boolean)
theorem sel_X5_beginNamed : Cond.instanceMethod mX5_beginNamed.2.1 ∈ tblG ∧ Cond.selects mX5_beginNamed.2.1.cls mX5_beginNamed.2.1 mX5_beginNamed.2.1 ∈ tblG := ⟨tblG_in (inT4 (List.mem_of_getElem? (i := 60) rfl)) rfl, tblG_in (inP2 (q := (mX5_beginNamed.2.1, 7)) (List.mem_of_getElem? (i := 2) rfl)) rfl⟩
theorem s_5_112 : e_siteV 5 112 mX5_beginNamed 5 := ⟨tblG_in (inT4 (List.mem_of_getElem? (i := 58) rfl)) rfl, sel_X5_beginNamed.1, sel_X5_beginNamed.2, rfl⟩
theorem d_X5_beginNamed_0 : decode mX5_beginNamed.2.2.1 0 = .ok (.aload_n 0, 1) := by decide +kernel
theorem d_X5_beginNamed_1 : decode mX5_beginNamed.2.2.1 1 = .ok (.getfield 22, 3) := by decide +kernel
theorem d_X5_beginNamed_4 : decode mX5_beginNamed.2.2.1 4 = .ok (.iload_n 1, 1) := by decide +kernel
theorem d_X5_beginNamed_5 : decode mX5_beginNamed.2.2.1 5 = .ok (.invokevirtual 126, 3) := by decide +kernel
def mX3_isFull : MD := (3, yX3_isFull, cX3_isFull, 2, some .boolean)
theorem sel_X3_isFull : Cond.instanceMethod mX3_isFull.2.1 ∈ tblG ∧ Cond.selects mX3_isFull.2.1.cls mX3_isFull.2.1 mX3_isFull.2.1 ∈ tblG := ⟨tblG_in (inT4 (List.mem_of_getElem? (i := 63) rfl)) rfl, tblG_in (inT4 (List.mem_of_getElem? (i := 64) rfl)) rfl⟩
theorem s_5_126 : e_siteV 5 126 mX3_isFull 3 := ⟨tblG_in (inT4 (List.mem_of_getElem? (i := 62) rfl)) rfl, sel_X3_isFull.1, sel_X3_isFull.2, rfl⟩
theorem d_X3_isFull_0 : decode mX3_isFull.2.2.1 0 = .ok (.aload_n 0, 1) := by decide +kernel
theorem d_X3_isFull_1 : decode mX3_isFull.2.2.1 1 = .ok (.getfield 11, 3) := by decide +kernel
theorem d_X3_isFull_4 : decode mX3_isFull.2.2.1 4 = .ok (.iload_n 1, 1) := by decide +kernel
theorem d_X3_isFull_5 : decode mX3_isFull.2.2.1 5 = .ok (.iaload, 1) := by decide +kernel
theorem d_X3_isFull_6 : decode mX3_isFull.2.2.1 6 = .ok (.getstatic 62, 3) := by decide +kernel
theorem sl_3_62 : Cond.fieldLink (e_cn 3) 62 "SipMeter$Machine" "MOST" "[I" ∈ tblG := tblG_in (inT4 (List.mem_of_getElem? (i := 66) rfl)) rfl
theorem d_X3_isFull_9 : decode mX3_isFull.2.2.1 9 = .ok (.iload_n 1, 1) := by decide +kernel
theorem d_X3_isFull_10 : decode mX3_isFull.2.2.1 10 = .ok (.iaload, 1) := by decide +kernel
theorem d_X3_isFull_11 : decode mX3_isFull.2.2.1 11 = .ok (.if_icmp .lt 7, 3) := by decide +kernel
theorem d_X3_isFull_18 : decode mX3_isFull.2.2.1 18 = .ok (.iconst 0, 1) := by decide +kernel
theorem d_X3_isFull_19 : decode mX3_isFull.2.2.1 19 = .ok (.ireturn, 1) := by decide +kernel
theorem d_X3_isFull_14 : decode mX3_isFull.2.2.1 14 = .ok (.iconst 1, 1) := by decide +kernel
theorem d_X3_isFull_15 : decode mX3_isFull.2.2.1 15 = .ok (.goto 4, 3) := by decide +kernel
theorem ok_X3_isFull : e_m mX3_isFull 1 := ⟨tblG_in (inT4 (List.mem_of_getElem? (i := 65) rfl)) rfl, plainFor_of_name (by decide), rfl, ini_3, by decide +kernel, by decide⟩
theorem d_X5_beginNamed_8 : decode mX5_beginNamed.2.2.1 8 = .ok (.ifCond .eq 9, 3) := by decide +kernel
theorem d_X5_beginNamed_17 : decode mX5_beginNamed.2.2.1 17 = .ok (.aload_n 0, 1) := by decide +kernel
theorem d_X5_beginNamed_18 : decode mX5_beginNamed.2.2.1 18 = .ok (.invokevirtual 74, 3) := by decide +kernel
theorem d_X5_beginNamed_21 : decode mX5_beginNamed.2.2.1 21 = .ok (.pop, 1) := by decide +kernel
theorem d_X5_beginNamed_22 : decode mX5_beginNamed.2.2.1 22 = .ok (.aload_n 0, 1) := by decide +kernel
theorem d_X5_beginNamed_23 : decode mX5_beginNamed.2.2.1 23 = .ok (.getfield 18, 3) := by decide +kernel
theorem d_X5_beginNamed_26 : decode mX5_beginNamed.2.2.1 26 = .ok (.getfield 50, 3) := by decide +kernel
theorem d_X5_beginNamed_29 : decode mX5_beginNamed.2.2.1 29 = .ok (.aload_n 0, 1) := by decide +kernel
theorem d_X5_beginNamed_30 : decode mX5_beginNamed.2.2.1 30 = .ok (.getfield 36, 3) := by decide +kernel
theorem d_X5_beginNamed_33 : decode mX5_beginNamed.2.2.1 33 = .ok (.iaload, 1) := by decide +kernel
theorem d_X5_beginNamed_34 : decode mX5_beginNamed.2.2.1 34 = .ok (.iconst 3, 1) := by decide +kernel
theorem d_X5_beginNamed_35 : decode mX5_beginNamed.2.2.1 35 = .ok (.if_icmp .eq 9, 3) := by decide +kernel
theorem d_X5_beginNamed_44 : decode mX5_beginNamed.2.2.1 44 = .ok (.aload_n 0, 1) := by decide +kernel
theorem d_X5_beginNamed_45 : decode mX5_beginNamed.2.2.1 45 = .ok (.getfield 22, 3) := by decide +kernel
theorem d_X5_beginNamed_48 : decode mX5_beginNamed.2.2.1 48 = .ok (.aload_n 0, 1) := by decide +kernel
theorem d_X5_beginNamed_49 : decode mX5_beginNamed.2.2.1 49 = .ok (.getfield 18, 3) := by decide +kernel
theorem d_X5_beginNamed_52 : decode mX5_beginNamed.2.2.1 52 = .ok (.getfield 68, 3) := by decide +kernel
theorem d_X5_beginNamed_55 : decode mX5_beginNamed.2.2.1 55 = .ok (.aload_n 0, 1) := by decide +kernel
theorem d_X5_beginNamed_56 : decode mX5_beginNamed.2.2.1 56 = .ok (.getfield 36, 3) := by decide +kernel
theorem d_X5_beginNamed_59 : decode mX5_beginNamed.2.2.1 59 = .ok (.iaload, 1) := by decide +kernel
theorem d_X5_beginNamed_60 : decode mX5_beginNamed.2.2.1 60 = .ok (.invokevirtual 91, 3) := by decide +kernel
theorem sel_X3_find : Cond.instanceMethod mX3_find.2.1 ∈ tblG ∧ Cond.selects mX3_find.2.1.cls mX3_find.2.1 mX3_find.2.1 ∈ tblG := ⟨tblG_in (inT4 (List.mem_of_getElem? (i := 69) rfl)) rfl, tblG_in (inT4 (List.mem_of_getElem? (i := 70) rfl)) rfl⟩
theorem s_5_91 : e_siteV 5 91 mX3_find 3 := ⟨tblG_in (inT4 (List.mem_of_getElem? (i := 68) rfl)) rfl, sel_X3_find.1, sel_X3_find.2, rfl⟩
theorem ok_X3_find : e_m mX3_find 1 := ⟨tblG_in (inT4 (List.mem_of_getElem? (i := 71) rfl)) rfl, plainFor_of_name (by decide), rfl, ini_3, by decide +kernel, by decide⟩
theorem d_X5_beginNamed_63 : decode mX5_beginNamed.2.2.1 63 = .ok (.ifCond .lt 9, 3) := by decide +kernel
theorem d_X5_beginNamed_72 : decode mX5_beginNamed.2.2.1 72 = .ok (.aload_n 0, 1) := by decide +kernel
theorem d_X5_beginNamed_73 : decode mX5_beginNamed.2.2.1 73 = .ok (.getfield 22, 3) := by decide +kernel
theorem d_X5_beginNamed_76 : decode mX5_beginNamed.2.2.1 76 = .ok (.iload_n 1, 1) := by decide +kernel
theorem d_X5_beginNamed_77 : decode mX5_beginNamed.2.2.1 77 = .ok (.aload_n 0, 1) := by decide +kernel
theorem d_X5_beginNamed_78 : decode mX5_beginNamed.2.2.1 78 = .ok (.getfield 18, 3) := by decide +kernel
theorem d_X5_beginNamed_81 : decode mX5_beginNamed.2.2.1 81 = .ok (.getfield 68, 3) := by decide +kernel
theorem d_X5_beginNamed_84 : decode mX5_beginNamed.2.2.1 84 = .ok (.aload_n 0, 1) := by decide +kernel
theorem d_X5_beginNamed_85 : decode mX5_beginNamed.2.2.1 85 = .ok (.getfield 36, 3) := by decide +kernel
theorem d_X5_beginNamed_88 : decode mX5_beginNamed.2.2.1 88 = .ok (.iaload, 1) := by decide +kernel
theorem d_X5_beginNamed_89 : decode mX5_beginNamed.2.2.1 89 = .ok (.invokevirtual 129, 3) := by decide +kernel
def mX3_name : MD := (3, yX3_name, cX3_name, 3, none)
theorem sel_X3_name : Cond.instanceMethod mX3_name.2.1 ∈ tblG ∧ Cond.selects mX3_name.2.1.cls mX3_name.2.1 mX3_name.2.1 ∈ tblG := ⟨tblG_in (inT4 (List.mem_of_getElem? (i := 73) rfl)) rfl, tblG_in (inT4 (List.mem_of_getElem? (i := 74) rfl)) rfl⟩
theorem s_5_129 : e_siteV 5 129 mX3_name 3 := ⟨tblG_in (inT4 (List.mem_of_getElem? (i := 72) rfl)) rfl, sel_X3_name.1, sel_X3_name.2, rfl⟩
theorem d_X3_name_0 : decode mX3_name.2.2.1 0 = .ok (.aload_n 0, 1) := by decide +kernel
theorem d_X3_name_1 : decode mX3_name.2.2.1 1 = .ok (.getfield 11, 3) := by decide +kernel
theorem d_X3_name_4 : decode mX3_name.2.2.1 4 = .ok (.iload_n 1, 1) := by decide +kernel
theorem d_X3_name_5 : decode mX3_name.2.2.1 5 = .ok (.iaload, 1) := by decide +kernel
theorem d_X3_name_6 : decode mX3_name.2.2.1 6 = .ok (.getstatic 62, 3) := by decide +kernel
theorem d_X3_name_9 : decode mX3_name.2.2.1 9 = .ok (.iload_n 1, 1) := by decide +kernel
theorem d_X3_name_10 : decode mX3_name.2.2.1 10 = .ok (.iaload, 1) := by decide +kernel
theorem d_X3_name_11 : decode mX3_name.2.2.1 11 = .ok (.if_icmp .ge 31, 3) := by decide +kernel
theorem d_X3_name_42 : decode mX3_name.2.2.1 42 = .ok (.return_, 1) := by decide +kernel
theorem d_X3_name_14 : decode mX3_name.2.2.1 14 = .ok (.aload_n 0, 1) := by decide +kernel
theorem d_X3_name_15 : decode mX3_name.2.2.1 15 = .ok (.getfield 30, 3) := by decide +kernel
theorem d_X3_name_18 : decode mX3_name.2.2.1 18 = .ok (.getstatic 65, 3) := by decide +kernel
theorem d_X3_name_21 : decode mX3_name.2.2.1 21 = .ok (.iload_n 1, 1) := by decide +kernel
theorem d_X3_name_22 : decode mX3_name.2.2.1 22 = .ok (.iaload, 1) := by decide +kernel
theorem d_X3_name_23 : decode mX3_name.2.2.1 23 = .ok (.aload_n 0, 1) := by decide +kernel
theorem d_X3_name_24 : decode mX3_name.2.2.1 24 = .ok (.getfield 11, 3) := by decide +kernel
theorem d_X3_name_27 : decode mX3_name.2.2.1 27 = .ok (.iload_n 1, 1) := by decide +kernel
theorem d_X3_name_28 : decode mX3_name.2.2.1 28 = .ok (.iaload, 1) := by decide +kernel
theorem d_X3_name_29 : decode mX3_name.2.2.1 29 = .ok (.iadd, 1) := by decide +kernel
theorem d_X3_name_30 : decode mX3_name.2.2.1 30 = .ok (.iload_n 2, 1) := by decide +kernel
theorem d_X3_name_31 : decode mX3_name.2.2.1 31 = .ok (.iastore, 1) := by decide +kernel
theorem d_X3_name_32 : decode mX3_name.2.2.1 32 = .ok (.aload_n 0, 1) := by decide +kernel
theorem d_X3_name_33 : decode mX3_name.2.2.1 33 = .ok (.getfield 11, 3) := by decide +kernel
theorem d_X3_name_36 : decode mX3_name.2.2.1 36 = .ok (.iload_n 1, 1) := by decide +kernel
theorem d_X3_name_37 : decode mX3_name.2.2.1 37 = .ok (.dup2, 1) := by decide +kernel
theorem d_X3_name_38 : decode mX3_name.2.2.1 38 = .ok (.iaload, 1) := by decide +kernel
theorem d_X3_name_39 : decode mX3_name.2.2.1 39 = .ok (.iconst 1, 1) := by decide +kernel
theorem d_X3_name_40 : decode mX3_name.2.2.1 40 = .ok (.iadd, 1) := by decide +kernel
theorem d_X3_name_41 : decode mX3_name.2.2.1 41 = .ok (.iastore, 1) := by decide +kernel
theorem ok_X3_name : e_m mX3_name 2 := ⟨tblG_in (inT4 (List.mem_of_getElem? (i := 75) rfl)) rfl, plainFor_of_name (by decide), rfl, ini_3, by decide +kernel, by decide⟩
theorem d_X5_beginNamed_92 : decode mX5_beginNamed.2.2.1 92 = .ok (.aload_n 0, 1) := by decide +kernel
