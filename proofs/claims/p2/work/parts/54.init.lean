/-! the memory behind the constructors -/
def ivZ : List (Int × Int × Int) := ivA ++ [(24, 0, 0), (25, 0, 0), (44, 0, 0), (45, 0, 0), (143, 0, 0), (144, 0, 0)]
def Zb (M : Mem) : Prop := ∀ e ∈ ivZ, ∀ j : Int, e.2.1 ≤ rd M e.1 j ∧ rd M e.1 j ≤ e.2.2
def zA (M : Mem) : Bool := true
theorem ivZ_0 : ∀ e ∈ ivZ, e.2.1 ≤ 0 ∧ 0 ≤ e.2.2 := fun e he => of_decide_eq_true (List.all_eq_true.mp (show ivZ.all (fun e => decide (e.2.1 ≤ 0 ∧ 0 ≤ e.2.2)) = true by decide +kernel) e he)
def zok (x v : Int) : Bool := ivZ.all (fun e => decide (e.1 ≠ x) || decide (e.2.1 ≤ v ∧ v ≤ e.2.2))
def zno (x : Int) : Bool := ivZ.all (fun e => decide (e.1 ≠ x))
theorem zok_s {x v : Int} (h : zok x v = true) {e : Int × Int × Int} (he : e ∈ ivZ) (hx : e.1 = x) : e.2.1 ≤ v ∧ v ≤ e.2.2 := by
  have h1 := List.all_eq_true.mp h e he
  rw [Bool.or_eq_true] at h1
  rcases h1 with h1 | h1
  · exact absurd hx (of_decide_eq_true h1)
  · exact of_decide_eq_true h1
theorem Zb.w {M : Mem} {x i v : Int} (h : Zb M) (hc : zok x v = true) : Zb (wr M x i v) := fun e he j => by
  rw [rd_wr]
  split
  · rename_i c
    exact zok_s hc he c.1
  · exact h e he j
theorem Zb.f {M : Mem} {x v : Int} {n : Nat} (h : Zb M) (hc : zok x v = true) : Zb (fil M x n v) := fun e he j => by
  rw [rd_fil]
  split
  · rename_i c
    exact zok_s hc he c.1
  · exact h e he j
theorem e_df0 {c : Nat} (h : 20 ≤ c) (j : Int) : e_df c j = 0 := by unfold e_df; rw [if_neg (by omega)]
theorem Zb.n {M : Mem} {t : Nat × Nat} (n : Nat) (h : Zb M) (hn : M.1 = n) (hc : (decide (20 ≤ t.1) || zno n) = true) : Zb (mnew M t) := fun e he j => by
  rw [rd_nw]
  split
  · rename_i c
    rw [Bool.or_eq_true] at hc
    rcases hc with hc | hc
    · rw [e_df0 (of_decide_eq_true hc)]
      exact ivZ_0 e he
    · exact absurd (by rw [c, hn]) (of_decide_eq_true (List.all_eq_true.mp hc e he))
  · exact h e he j
theorem n_0 : C_0.1 = 0 := rfl
theorem zb_0 : Zb C_0 := fun e he _ => ivZ_0 e he
theorem zb_1 : Zb C_1 := Zb.n (M := C_0) 0 zb_0 n_0 (by decide +kernel)
theorem n_1 : C_1.1 = 1 := by show C_0.1 + 1 = 1; rw [n_0]
theorem zb_2 : Zb C_2 := Zb.n (M := C_1) 1 zb_1 n_1 (by decide +kernel)
theorem n_2 : C_2.1 = 2 := by show C_1.1 + 1 = 2; rw [n_1]
theorem zb_3 : Zb C_3 := Zb.w (M := C_2) zb_2 (by decide +kernel)
theorem n_3 : C_3.1 = 2 := n_2
theorem zb_4 : Zb C_4 := Zb.n (M := C_3) 2 zb_3 n_3 (by decide +kernel)
theorem n_4 : C_4.1 = 3 := by show C_3.1 + 1 = 3; rw [n_3]
theorem zb_5 : Zb C_5 := Zb.n (M := C_4) 3 zb_4 n_4 (by decide +kernel)
theorem n_5 : C_5.1 = 4 := by show C_4.1 + 1 = 4; rw [n_4]
theorem zb_6 : Zb C_6 := Zb.w (M := C_5) zb_5 (by decide +kernel)
theorem n_6 : C_6.1 = 4 := n_5
theorem zb_7 : Zb C_7 := Zb.n (M := C_6) 4 zb_6 n_6 (by decide +kernel)
theorem n_7 : C_7.1 = 5 := by show C_6.1 + 1 = 5; rw [n_6]
theorem zb_8 : Zb C_8 := Zb.w (M := C_7) zb_7 (by decide +kernel)
theorem n_8 : C_8.1 = 5 := n_7
theorem zb_9 : Zb C_9 := Zb.n (M := C_8) 5 zb_8 n_8 (by decide +kernel)
theorem n_9 : C_9.1 = 6 := by show C_8.1 + 1 = 6; rw [n_8]
theorem zb_10 : Zb C_10 := Zb.w (M := C_9) zb_9 (by decide +kernel)
theorem n_10 : C_10.1 = 6 := n_9
theorem zb_11 : Zb C_11 := Zb.w (M := C_10) zb_10 (by decide +kernel)
theorem n_11 : C_11.1 = 6 := n_10
theorem zb_12 : Zb C_12 := Zb.n (M := C_11) 6 zb_11 n_11 (by decide +kernel)
theorem n_12 : C_12.1 = 7 := by show C_11.1 + 1 = 7; rw [n_11]
theorem zb_13 : Zb C_13 := Zb.w (M := C_12) zb_12 (by decide +kernel)
theorem n_13 : C_13.1 = 7 := n_12
theorem zb_14 : Zb C_14 := Zb.w (M := C_13) zb_13 (by decide +kernel)
theorem n_14 : C_14.1 = 7 := n_13
theorem zb_15 : Zb C_15 := Zb.w (M := C_14) zb_14 (by decide +kernel)
theorem n_15 : C_15.1 = 7 := n_14
theorem zb_16 : Zb C_16 := Zb.n (M := C_15) 7 zb_15 n_15 (by decide +kernel)
theorem n_16 : C_16.1 = 8 := by show C_15.1 + 1 = 8; rw [n_15]
theorem zb_17 : Zb C_17 := Zb.n (M := C_16) 8 zb_16 n_16 (by decide +kernel)
theorem n_17 : C_17.1 = 9 := by show C_16.1 + 1 = 9; rw [n_16]
theorem zb_18 : Zb C_18 := Zb.w (M := C_17) zb_17 (by decide +kernel)
theorem n_18 : C_18.1 = 9 := n_17
theorem zb_19 : Zb C_19 := Zb.n (M := C_18) 9 zb_18 n_18 (by decide +kernel)
theorem n_19 : C_19.1 = 10 := by show C_18.1 + 1 = 10; rw [n_18]
theorem zb_20 : Zb C_20 := Zb.w (M := C_19) zb_19 (by decide +kernel)
theorem n_20 : C_20.1 = 10 := n_19
theorem zb_21 : Zb C_21 := Zb.n (M := C_20) 10 zb_20 n_20 (by decide +kernel)
theorem n_21 : C_21.1 = 11 := by show C_20.1 + 1 = 11; rw [n_20]
theorem zb_22 : Zb C_22 := Zb.w (M := C_21) zb_21 (by decide +kernel)
theorem n_22 : C_22.1 = 11 := n_21
theorem zb_23 : Zb C_23 := Zb.n (M := C_22) 11 zb_22 n_22 (by decide +kernel)
theorem n_23 : C_23.1 = 12 := by show C_22.1 + 1 = 12; rw [n_22]
theorem zb_24 : Zb C_24 := Zb.w (M := C_23) zb_23 (by decide +kernel)
theorem n_24 : C_24.1 = 12 := n_23
theorem zb_25 : Zb C_25 := Zb.n (M := C_24) 12 zb_24 n_24 (by decide +kernel)
theorem n_25 : C_25.1 = 13 := by show C_24.1 + 1 = 13; rw [n_24]
theorem zb_26 : Zb C_26 := Zb.w (M := C_25) zb_25 (by decide +kernel)
theorem n_26 : C_26.1 = 13 := n_25
theorem zb_27 : Zb C_27 := Zb.n (M := C_26) 13 zb_26 n_26 (by decide +kernel)
theorem n_27 : C_27.1 = 14 := by show C_26.1 + 1 = 14; rw [n_26]
theorem zb_28 : Zb C_28 := Zb.w (M := C_27) zb_27 (by decide +kernel)
theorem n_28 : C_28.1 = 14 := n_27
theorem zb_29 : Zb C_29 := Zb.n (M := C_28) 14 zb_28 n_28 (by decide +kernel)
theorem n_29 : C_29.1 = 15 := by show C_28.1 + 1 = 15; rw [n_28]
theorem zb_30 : Zb C_30 := Zb.w (M := C_29) zb_29 (by decide +kernel)
theorem n_30 : C_30.1 = 15 := n_29
theorem zb_31 : Zb C_31 := Zb.n (M := C_30) 15 zb_30 n_30 (by decide +kernel)
theorem n_31 : C_31.1 = 16 := by show C_30.1 + 1 = 16; rw [n_30]
theorem zb_32 : Zb C_32 := Zb.n (M := C_31) 16 zb_31 n_31 (by decide +kernel)
theorem n_32 : C_32.1 = 17 := by show C_31.1 + 1 = 17; rw [n_31]
theorem zb_33 : Zb C_33 := Zb.w (M := C_32) zb_32 (by decide +kernel)
theorem n_33 : C_33.1 = 17 := n_32
theorem zb_34 : Zb C_34 := Zb.n (M := C_33) 17 zb_33 n_33 (by decide +kernel)
theorem n_34 : C_34.1 = 18 := by show C_33.1 + 1 = 18; rw [n_33]
theorem zb_35 : Zb C_35 := Zb.w (M := C_34) zb_34 (by decide +kernel)
theorem n_35 : C_35.1 = 18 := n_34
theorem zb_36 : Zb C_36 := Zb.n (M := C_35) 18 zb_35 n_35 (by decide +kernel)
theorem n_36 : C_36.1 = 19 := by show C_35.1 + 1 = 19; rw [n_35]
theorem zb_37 : Zb C_37 := Zb.w (M := C_36) zb_36 (by decide +kernel)
theorem n_37 : C_37.1 = 19 := n_36
theorem zb_38 : Zb C_38 := Zb.n (M := C_37) 19 zb_37 n_37 (by decide +kernel)
theorem n_38 : C_38.1 = 20 := by show C_37.1 + 1 = 20; rw [n_37]
theorem zb_39 : Zb C_39 := Zb.w (M := C_38) zb_38 (by decide +kernel)
theorem n_39 : C_39.1 = 20 := n_38
theorem zb_40 : Zb C_40 := Zb.n (M := C_39) 20 zb_39 n_39 (by decide +kernel)
theorem n_40 : C_40.1 = 21 := by show C_39.1 + 1 = 21; rw [n_39]
theorem zb_41 : Zb C_41 := Zb.w (M := C_40) zb_40 (by decide +kernel)
theorem n_41 : C_41.1 = 21 := n_40
theorem zb_42 : Zb C_42 := Zb.n (M := C_41) 21 zb_41 n_41 (by decide +kernel)
theorem n_42 : C_42.1 = 22 := by show C_41.1 + 1 = 22; rw [n_41]
theorem zb_43 : Zb C_43 := Zb.w (M := C_42) zb_42 (by decide +kernel)
theorem n_43 : C_43.1 = 22 := n_42
theorem zb_44 : Zb C_44 := Zb.n (M := C_43) 22 zb_43 n_43 (by decide +kernel)
theorem n_44 : C_44.1 = 23 := by show C_43.1 + 1 = 23; rw [n_43]
theorem zb_45 : Zb C_45 := Zb.w (M := C_44) zb_44 (by decide +kernel)
theorem n_45 : C_45.1 = 23 := n_44
theorem zb_46 : Zb C_46 := Zb.n (M := C_45) 23 zb_45 n_45 (by decide +kernel)
theorem n_46 : C_46.1 = 24 := by show C_45.1 + 1 = 24; rw [n_45]
theorem zb_47 : Zb C_47 := Zb.w (M := C_46) zb_46 (by decide +kernel)
theorem n_47 : C_47.1 = 24 := n_46
theorem zb_48 : Zb C_48 := Zb.n (M := C_47) 24 zb_47 n_47 (by decide +kernel)
theorem n_48 : C_48.1 = 25 := by show C_47.1 + 1 = 25; rw [n_47]
theorem zb_49 : Zb C_49 := Zb.w (M := C_48) zb_48 (by decide +kernel)
theorem n_49 : C_49.1 = 25 := n_48
theorem zb_50 : Zb C_50 := Zb.n (M := C_49) 25 zb_49 n_49 (by decide +kernel)
theorem n_50 : C_50.1 = 26 := by show C_49.1 + 1 = 26; rw [n_49]
theorem zb_51 : Zb C_51 := Zb.w (M := C_50) zb_50 (by decide +kernel)
theorem n_51 : C_51.1 = 26 := n_50
theorem zb_52 : Zb C_52 := Zb.n (M := C_51) 26 zb_51 n_51 (by decide +kernel)
theorem n_52 : C_52.1 = 27 := by show C_51.1 + 1 = 27; rw [n_51]
theorem zb_53 : Zb C_53 := Zb.w (M := C_52) zb_52 (by decide +kernel)
theorem n_53 : C_53.1 = 27 := n_52
theorem zb_54 : Zb C_54 := Zb.w (M := C_53) zb_53 (by decide +kernel)
theorem n_54 : C_54.1 = 27 := n_53
theorem zb_55 : Zb C_55 := Zb.w (M := C_54) zb_54 (by decide +kernel)
theorem n_55 : C_55.1 = 27 := n_54
theorem zb_56 : Zb C_56 := Zb.n (M := C_55) 27 zb_55 n_55 (by decide +kernel)
theorem n_56 : C_56.1 = 28 := by show C_55.1 + 1 = 28; rw [n_55]
theorem zb_57 : Zb C_57 := Zb.n (M := C_56) 28 zb_56 n_56 (by decide +kernel)
theorem n_57 : C_57.1 = 29 := by show C_56.1 + 1 = 29; rw [n_56]
theorem zb_58 : Zb C_58 := Zb.w (M := C_57) zb_57 (by decide +kernel)
theorem n_58 : C_58.1 = 29 := n_57
theorem zb_59 : Zb C_59 := Zb.n (M := C_58) 29 zb_58 n_58 (by decide +kernel)
theorem n_59 : C_59.1 = 30 := by show C_58.1 + 1 = 30; rw [n_58]
theorem zb_60 : Zb C_60 := Zb.w (M := C_59) zb_59 (by decide +kernel)
theorem n_60 : C_60.1 = 30 := n_59
theorem zb_61 : Zb C_61 := Zb.n (M := C_60) 30 zb_60 n_60 (by decide +kernel)
theorem n_61 : C_61.1 = 31 := by show C_60.1 + 1 = 31; rw [n_60]
theorem zb_62 : Zb C_62 := Zb.w (M := C_61) zb_61 (by decide +kernel)
theorem n_62 : C_62.1 = 31 := n_61
theorem zb_63 : Zb C_63 := Zb.n (M := C_62) 31 zb_62 n_62 (by decide +kernel)
theorem n_63 : C_63.1 = 32 := by show C_62.1 + 1 = 32; rw [n_62]
theorem zb_64 : Zb C_64 := Zb.w (M := C_63) zb_63 (by decide +kernel)
theorem n_64 : C_64.1 = 32 := n_63
theorem zb_65 : Zb C_65 := Zb.n (M := C_64) 32 zb_64 n_64 (by decide +kernel)
theorem n_65 : C_65.1 = 33 := by show C_64.1 + 1 = 33; rw [n_64]
theorem zb_66 : Zb C_66 := Zb.w (M := C_65) zb_65 (by decide +kernel)
theorem n_66 : C_66.1 = 33 := n_65
theorem zb_67 : Zb C_67 := Zb.n (M := C_66) 33 zb_66 n_66 (by decide +kernel)
theorem n_67 : C_67.1 = 34 := by show C_66.1 + 1 = 34; rw [n_66]
theorem zb_68 : Zb C_68 := Zb.w (M := C_67) zb_67 (by decide +kernel)
theorem n_68 : C_68.1 = 34 := n_67
theorem zb_69 : Zb C_69 := Zb.n (M := C_68) 34 zb_68 n_68 (by decide +kernel)
theorem n_69 : C_69.1 = 35 := by show C_68.1 + 1 = 35; rw [n_68]
theorem zb_70 : Zb C_70 := Zb.w (M := C_69) zb_69 (by decide +kernel)
theorem n_70 : C_70.1 = 35 := n_69
theorem zb_71 : Zb C_71 := Zb.n (M := C_70) 35 zb_70 n_70 (by decide +kernel)
theorem n_71 : C_71.1 = 36 := by show C_70.1 + 1 = 36; rw [n_70]
theorem zb_72 : Zb C_72 := Zb.n (M := C_71) 36 zb_71 n_71 (by decide +kernel)
theorem n_72 : C_72.1 = 37 := by show C_71.1 + 1 = 37; rw [n_71]
theorem zb_73 : Zb C_73 := Zb.w (M := C_72) zb_72 (by decide +kernel)
theorem n_73 : C_73.1 = 37 := n_72
theorem zb_74 : Zb C_74 := Zb.n (M := C_73) 37 zb_73 n_73 (by decide +kernel)
theorem n_74 : C_74.1 = 38 := by show C_73.1 + 1 = 38; rw [n_73]
theorem zb_75 : Zb C_75 := Zb.w (M := C_74) zb_74 (by decide +kernel)
theorem n_75 : C_75.1 = 38 := n_74
theorem zb_76 : Zb C_76 := Zb.n (M := C_75) 38 zb_75 n_75 (by decide +kernel)
theorem n_76 : C_76.1 = 39 := by show C_75.1 + 1 = 39; rw [n_75]
theorem zb_77 : Zb C_77 := Zb.w (M := C_76) zb_76 (by decide +kernel)
theorem n_77 : C_77.1 = 39 := n_76
theorem zb_78 : Zb C_78 := Zb.n (M := C_77) 39 zb_77 n_77 (by decide +kernel)
theorem n_78 : C_78.1 = 40 := by show C_77.1 + 1 = 40; rw [n_77]
theorem zb_79 : Zb C_79 := Zb.w (M := C_78) zb_78 (by decide +kernel)
theorem n_79 : C_79.1 = 40 := n_78
theorem zb_80 : Zb C_80 := Zb.n (M := C_79) 40 zb_79 n_79 (by decide +kernel)
theorem n_80 : C_80.1 = 41 := by show C_79.1 + 1 = 41; rw [n_79]
theorem zb_81 : Zb C_81 := Zb.w (M := C_80) zb_80 (by decide +kernel)
theorem n_81 : C_81.1 = 41 := n_80
theorem zb_82 : Zb C_82 := Zb.n (M := C_81) 41 zb_81 n_81 (by decide +kernel)
theorem n_82 : C_82.1 = 42 := by show C_81.1 + 1 = 42; rw [n_81]
theorem zb_83 : Zb C_83 := Zb.w (M := C_82) zb_82 (by decide +kernel)
theorem n_83 : C_83.1 = 42 := n_82
theorem zb_84 : Zb C_84 := Zb.n (M := C_83) 42 zb_83 n_83 (by decide +kernel)
theorem n_84 : C_84.1 = 43 := by show C_83.1 + 1 = 43; rw [n_83]
theorem zb_85 : Zb C_85 := Zb.w (M := C_84) zb_84 (by decide +kernel)
theorem n_85 : C_85.1 = 43 := n_84
theorem zb_86 : Zb C_86 := Zb.n (M := C_85) 43 zb_85 n_85 (by decide +kernel)
theorem n_86 : C_86.1 = 44 := by show C_85.1 + 1 = 44; rw [n_85]
theorem zb_87 : Zb C_87 := Zb.w (M := C_86) zb_86 (by decide +kernel)
theorem n_87 : C_87.1 = 44 := n_86
theorem zb_88 : Zb C_88 := Zb.n (M := C_87) 44 zb_87 n_87 (by decide +kernel)
theorem n_88 : C_88.1 = 45 := by show C_87.1 + 1 = 45; rw [n_87]
theorem zb_89 : Zb C_89 := Zb.w (M := C_88) zb_88 (by decide +kernel)
theorem n_89 : C_89.1 = 45 := n_88
theorem zb_90 : Zb C_90 := Zb.n (M := C_89) 45 zb_89 n_89 (by decide +kernel)
theorem n_90 : C_90.1 = 46 := by show C_89.1 + 1 = 46; rw [n_89]
theorem zb_91 : Zb C_91 := Zb.w (M := C_90) zb_90 (by decide +kernel)
theorem n_91 : C_91.1 = 46 := n_90
theorem zb_92 : Zb C_92 := Zb.n (M := C_91) 46 zb_91 n_91 (by decide +kernel)
theorem n_92 : C_92.1 = 47 := by show C_91.1 + 1 = 47; rw [n_91]
theorem zb_93 : Zb C_93 := Zb.w (M := C_92) zb_92 (by decide +kernel)
theorem n_93 : C_93.1 = 47 := n_92
theorem zb_94 : Zb C_94 := Zb.w (M := C_93) zb_93 (by decide +kernel)
theorem n_94 : C_94.1 = 47 := n_93
theorem zb_95 : Zb C_95 := Zb.w (M := C_94) zb_94 (by decide +kernel)
theorem n_95 : C_95.1 = 47 := n_94
theorem zb_96 : Zb C_96 := Zb.n (M := C_95) 47 zb_95 n_95 (by decide +kernel)
theorem n_96 : C_96.1 = 48 := by show C_95.1 + 1 = 48; rw [n_95]
theorem zb_97 : Zb C_97 := Zb.w (M := C_96) zb_96 (by decide +kernel)
theorem n_97 : C_97.1 = 48 := n_96
theorem zb_98 : Zb C_98 := Zb.n (M := C_97) 48 zb_97 n_97 (by decide +kernel)
theorem n_98 : C_98.1 = 49 := by show C_97.1 + 1 = 49; rw [n_97]
theorem zb_99 : Zb C_99 := Zb.n (M := C_98) 49 zb_98 n_98 (by decide +kernel)
theorem n_99 : C_99.1 = 50 := by show C_98.1 + 1 = 50; rw [n_98]
theorem zb_100 : Zb C_100 := Zb.w (M := C_99) zb_99 (by decide +kernel)
theorem n_100 : C_100.1 = 50 := n_99
theorem zb_101 : Zb C_101 := Zb.n (M := C_100) 50 zb_100 n_100 (by decide +kernel)
theorem n_101 : C_101.1 = 51 := by show C_100.1 + 1 = 51; rw [n_100]
theorem zb_102 : Zb C_102 := Zb.w (M := C_101) zb_101 (by decide +kernel)
theorem n_102 : C_102.1 = 51 := n_101
theorem zb_103 : Zb C_103 := Zb.n (M := C_102) 51 zb_102 n_102 (by decide +kernel)
theorem n_103 : C_103.1 = 52 := by show C_102.1 + 1 = 52; rw [n_102]
theorem zb_104 : Zb C_104 := Zb.w (M := C_103) zb_103 (by decide +kernel)
theorem n_104 : C_104.1 = 52 := n_103
theorem zb_105 : Zb C_105 := Zb.n (M := C_104) 52 zb_104 n_104 (by decide +kernel)
theorem n_105 : C_105.1 = 53 := by show C_104.1 + 1 = 53; rw [n_104]
theorem zb_106 : Zb C_106 := Zb.w (M := C_105) zb_105 (by decide +kernel)
theorem n_106 : C_106.1 = 53 := n_105
theorem zb_107 : Zb C_107 := Zb.n (M := C_106) 53 zb_106 n_106 (by decide +kernel)
theorem n_107 : C_107.1 = 54 := by show C_106.1 + 1 = 54; rw [n_106]
theorem zb_108 : Zb C_108 := Zb.w (M := C_107) zb_107 (by decide +kernel)
theorem n_108 : C_108.1 = 54 := n_107
theorem zb_109 : Zb C_109 := Zb.n (M := C_108) 54 zb_108 n_108 (by decide +kernel)
theorem n_109 : C_109.1 = 55 := by show C_108.1 + 1 = 55; rw [n_108]
theorem zb_110 : Zb C_110 := Zb.w (M := C_109) zb_109 (by decide +kernel)
theorem n_110 : C_110.1 = 55 := n_109
theorem zb_111 : Zb C_111 := Zb.n (M := C_110) 55 zb_110 n_110 (by decide +kernel)
theorem n_111 : C_111.1 = 56 := by show C_110.1 + 1 = 56; rw [n_110]
theorem zb_112 : Zb C_112 := Zb.w (M := C_111) zb_111 (by decide +kernel)
theorem n_112 : C_112.1 = 56 := n_111
theorem zb_113 : Zb C_113 := Zb.n (M := C_112) 56 zb_112 n_112 (by decide +kernel)
theorem n_113 : C_113.1 = 57 := by show C_112.1 + 1 = 57; rw [n_112]
theorem zb_114 : Zb C_114 := Zb.n (M := C_113) 57 zb_113 n_113 (by decide +kernel)
theorem n_114 : C_114.1 = 58 := by show C_113.1 + 1 = 58; rw [n_113]
theorem zb_115 : Zb C_115 := Zb.w (M := C_114) zb_114 (by decide +kernel)
theorem n_115 : C_115.1 = 58 := n_114
theorem zb_116 : Zb C_116 := Zb.n (M := C_115) 58 zb_115 n_115 (by decide +kernel)
theorem n_116 : C_116.1 = 59 := by show C_115.1 + 1 = 59; rw [n_115]
theorem zb_117 : Zb C_117 := Zb.w (M := C_116) zb_116 (by decide +kernel)
theorem n_117 : C_117.1 = 59 := n_116
theorem zb_118 : Zb C_118 := Zb.n (M := C_117) 59 zb_117 n_117 (by decide +kernel)
theorem n_118 : C_118.1 = 60 := by show C_117.1 + 1 = 60; rw [n_117]
theorem zb_119 : Zb C_119 := Zb.w (M := C_118) zb_118 (by decide +kernel)
theorem n_119 : C_119.1 = 60 := n_118
theorem zb_120 : Zb C_120 := Zb.n (M := C_119) 60 zb_119 n_119 (by decide +kernel)
theorem n_120 : C_120.1 = 61 := by show C_119.1 + 1 = 61; rw [n_119]
theorem zb_121 : Zb C_121 := Zb.w (M := C_120) zb_120 (by decide +kernel)
theorem n_121 : C_121.1 = 61 := n_120
theorem zb_122 : Zb C_122 := Zb.n (M := C_121) 61 zb_121 n_121 (by decide +kernel)
theorem n_122 : C_122.1 = 62 := by show C_121.1 + 1 = 62; rw [n_121]
theorem zb_123 : Zb C_123 := Zb.w (M := C_122) zb_122 (by decide +kernel)
theorem n_123 : C_123.1 = 62 := n_122
theorem zb_124 : Zb C_124 := Zb.n (M := C_123) 62 zb_123 n_123 (by decide +kernel)
theorem n_124 : C_124.1 = 63 := by show C_123.1 + 1 = 63; rw [n_123]
theorem zb_125 : Zb C_125 := Zb.w (M := C_124) zb_124 (by decide +kernel)
theorem n_125 : C_125.1 = 63 := n_124
theorem zb_126 : Zb C_126 := Zb.n (M := C_125) 63 zb_125 n_125 (by decide +kernel)
theorem n_126 : C_126.1 = 64 := by show C_125.1 + 1 = 64; rw [n_125]
theorem zb_127 : Zb C_127 := Zb.n (M := C_126) 64 zb_126 n_126 (by decide +kernel)
theorem n_127 : C_127.1 = 65 := by show C_126.1 + 1 = 65; rw [n_126]
theorem zb_128 : Zb C_128 := Zb.w (M := C_127) zb_127 (by decide +kernel)
theorem n_128 : C_128.1 = 65 := n_127
theorem zb_129 : Zb C_129 := Zb.n (M := C_128) 65 zb_128 n_128 (by decide +kernel)
theorem n_129 : C_129.1 = 66 := by show C_128.1 + 1 = 66; rw [n_128]
theorem zb_130 : Zb C_130 := Zb.w (M := C_129) zb_129 (by decide +kernel)
theorem n_130 : C_130.1 = 66 := n_129
theorem zb_131 : Zb C_131 := Zb.n (M := C_130) 66 zb_130 n_130 (by decide +kernel)
theorem n_131 : C_131.1 = 67 := by show C_130.1 + 1 = 67; rw [n_130]
theorem zb_132 : Zb C_132 := Zb.w (M := C_131) zb_131 (by decide +kernel)
theorem n_132 : C_132.1 = 67 := n_131
theorem zb_133 : Zb C_133 := Zb.n (M := C_132) 67 zb_132 n_132 (by decide +kernel)
theorem n_133 : C_133.1 = 68 := by show C_132.1 + 1 = 68; rw [n_132]
theorem zb_134 : Zb C_134 := Zb.w (M := C_133) zb_133 (by decide +kernel)
theorem n_134 : C_134.1 = 68 := n_133
theorem zb_135 : Zb C_135 := Zb.n (M := C_134) 68 zb_134 n_134 (by decide +kernel)
theorem n_135 : C_135.1 = 69 := by show C_134.1 + 1 = 69; rw [n_134]
theorem zb_136 : Zb C_136 := Zb.w (M := C_135) zb_135 (by decide +kernel)
theorem n_136 : C_136.1 = 69 := n_135
theorem zb_137 : Zb C_137 := Zb.n (M := C_136) 69 zb_136 n_136 (by decide +kernel)
theorem n_137 : C_137.1 = 70 := by show C_136.1 + 1 = 70; rw [n_136]
theorem zb_138 : Zb C_138 := Zb.w (M := C_137) zb_137 (by decide +kernel)
theorem n_138 : C_138.1 = 70 := n_137
theorem zb_139 : Zb C_139 := Zb.n (M := C_138) 70 zb_138 n_138 (by decide +kernel)
theorem n_139 : C_139.1 = 71 := by show C_138.1 + 1 = 71; rw [n_138]
theorem zb_140 : Zb C_140 := Zb.w (M := C_139) zb_139 (by decide +kernel)
theorem n_140 : C_140.1 = 71 := n_139
theorem zb_141 : Zb C_141 := Zb.n (M := C_140) 71 zb_140 n_140 (by decide +kernel)
theorem n_141 : C_141.1 = 72 := by show C_140.1 + 1 = 72; rw [n_140]
theorem zb_142 : Zb C_142 := Zb.w (M := C_141) zb_141 (by decide +kernel)
theorem n_142 : C_142.1 = 72 := n_141
theorem zb_143 : Zb C_143 := Zb.n (M := C_142) 72 zb_142 n_142 (by decide +kernel)
theorem n_143 : C_143.1 = 73 := by show C_142.1 + 1 = 73; rw [n_142]
theorem zb_144 : Zb C_144 := Zb.w (M := C_143) zb_143 (by decide +kernel)
theorem n_144 : C_144.1 = 73 := n_143
theorem zb_145 : Zb C_145 := Zb.n (M := C_144) 73 zb_144 n_144 (by decide +kernel)
theorem n_145 : C_145.1 = 74 := by show C_144.1 + 1 = 74; rw [n_144]
theorem zb_146 : Zb C_146 := Zb.w (M := C_145) zb_145 (by decide +kernel)
theorem n_146 : C_146.1 = 74 := n_145
theorem zb_147 : Zb C_147 := Zb.w (M := C_146) zb_146 (by decide +kernel)
theorem n_147 : C_147.1 = 74 := n_146
theorem zb_148 : Zb C_148 := Zb.w (M := C_147) zb_147 (by decide +kernel)
theorem n_148 : C_148.1 = 74 := n_147
theorem zb_149 : Zb C_149 := Zb.w (M := C_148) zb_148 (by decide +kernel)
theorem n_149 : C_149.1 = 74 := n_148
theorem zb_150 : Zb C_150 := Zb.w (M := C_149) zb_149 (by decide +kernel)
theorem n_150 : C_150.1 = 74 := n_149
theorem zb_151 : Zb C_151 := Zb.n (M := C_150) 74 zb_150 n_150 (by decide +kernel)
theorem n_151 : C_151.1 = 75 := by show C_150.1 + 1 = 75; rw [n_150]
theorem zb_152 : Zb C_152 := Zb.n (M := C_151) 75 zb_151 n_151 (by decide +kernel)
theorem n_152 : C_152.1 = 76 := by show C_151.1 + 1 = 76; rw [n_151]
theorem zb_153 : Zb C_153 := Zb.w (M := C_152) zb_152 (by decide +kernel)
theorem n_153 : C_153.1 = 76 := n_152
theorem zb_154 : Zb C_154 := Zb.n (M := C_153) 76 zb_153 n_153 (by decide +kernel)
theorem n_154 : C_154.1 = 77 := by show C_153.1 + 1 = 77; rw [n_153]
theorem zb_155 : Zb C_155 := Zb.w (M := C_154) zb_154 (by decide +kernel)
theorem n_155 : C_155.1 = 77 := n_154
theorem zb_156 : Zb C_156 := Zb.n (M := C_155) 77 zb_155 n_155 (by decide +kernel)
theorem n_156 : C_156.1 = 78 := by show C_155.1 + 1 = 78; rw [n_155]
theorem zb_157 : Zb C_157 := Zb.w (M := C_156) zb_156 (by decide +kernel)
theorem n_157 : C_157.1 = 78 := n_156
theorem zb_158 : Zb C_158 := Zb.n (M := C_157) 78 zb_157 n_157 (by decide +kernel)
theorem n_158 : C_158.1 = 79 := by show C_157.1 + 1 = 79; rw [n_157]
theorem zb_159 : Zb C_159 := Zb.w (M := C_158) zb_158 (by decide +kernel)
theorem n_159 : C_159.1 = 79 := n_158
theorem zb_160 : Zb C_160 := Zb.n (M := C_159) 79 zb_159 n_159 (by decide +kernel)
theorem n_160 : C_160.1 = 80 := by show C_159.1 + 1 = 80; rw [n_159]
theorem zb_161 : Zb C_161 := Zb.w (M := C_160) zb_160 (by decide +kernel)
theorem n_161 : C_161.1 = 80 := n_160
theorem zb_162 : Zb C_162 := Zb.n (M := C_161) 80 zb_161 n_161 (by decide +kernel)
theorem n_162 : C_162.1 = 81 := by show C_161.1 + 1 = 81; rw [n_161]
theorem zb_163 : Zb C_163 := Zb.w (M := C_162) zb_162 (by decide +kernel)
theorem n_163 : C_163.1 = 81 := n_162
theorem zb_164 : Zb C_164 := Zb.n (M := C_163) 81 zb_163 n_163 (by decide +kernel)
theorem n_164 : C_164.1 = 82 := by show C_163.1 + 1 = 82; rw [n_163]
theorem zb_165 : Zb C_165 := Zb.w (M := C_164) zb_164 (by decide +kernel)
theorem n_165 : C_165.1 = 82 := n_164
theorem zb_166 : Zb C_166 := Zb.n (M := C_165) 82 zb_165 n_165 (by decide +kernel)
theorem n_166 : C_166.1 = 83 := by show C_165.1 + 1 = 83; rw [n_165]
theorem zb_167 : Zb C_167 := Zb.n (M := C_166) 83 zb_166 n_166 (by decide +kernel)
theorem n_167 : C_167.1 = 84 := by show C_166.1 + 1 = 84; rw [n_166]
theorem zb_168 : Zb C_168 := Zb.w (M := C_167) zb_167 (by decide +kernel)
theorem n_168 : C_168.1 = 84 := n_167
theorem zb_169 : Zb C_169 := Zb.n (M := C_168) 84 zb_168 n_168 (by decide +kernel)
theorem n_169 : C_169.1 = 85 := by show C_168.1 + 1 = 85; rw [n_168]
theorem zb_170 : Zb C_170 := Zb.w (M := C_169) zb_169 (by decide +kernel)
theorem n_170 : C_170.1 = 85 := n_169
theorem zb_171 : Zb C_171 := Zb.n (M := C_170) 85 zb_170 n_170 (by decide +kernel)
theorem n_171 : C_171.1 = 86 := by show C_170.1 + 1 = 86; rw [n_170]
theorem zb_172 : Zb C_172 := Zb.w (M := C_171) zb_171 (by decide +kernel)
theorem n_172 : C_172.1 = 86 := n_171
theorem zb_173 : Zb C_173 := Zb.n (M := C_172) 86 zb_172 n_172 (by decide +kernel)
theorem n_173 : C_173.1 = 87 := by show C_172.1 + 1 = 87; rw [n_172]
theorem zb_174 : Zb C_174 := Zb.w (M := C_173) zb_173 (by decide +kernel)
theorem n_174 : C_174.1 = 87 := n_173
theorem zb_175 : Zb C_175 := Zb.n (M := C_174) 87 zb_174 n_174 (by decide +kernel)
theorem n_175 : C_175.1 = 88 := by show C_174.1 + 1 = 88; rw [n_174]
theorem zb_176 : Zb C_176 := Zb.w (M := C_175) zb_175 (by decide +kernel)
theorem n_176 : C_176.1 = 88 := n_175
theorem zb_177 : Zb C_177 := Zb.n (M := C_176) 88 zb_176 n_176 (by decide +kernel)
theorem n_177 : C_177.1 = 89 := by show C_176.1 + 1 = 89; rw [n_176]
theorem zb_178 : Zb C_178 := Zb.w (M := C_177) zb_177 (by decide +kernel)
theorem n_178 : C_178.1 = 89 := n_177
theorem zb_179 : Zb C_179 := Zb.n (M := C_178) 89 zb_178 n_178 (by decide +kernel)
theorem n_179 : C_179.1 = 90 := by show C_178.1 + 1 = 90; rw [n_178]
theorem zb_180 : Zb C_180 := Zb.n (M := C_179) 90 zb_179 n_179 (by decide +kernel)
theorem n_180 : C_180.1 = 91 := by show C_179.1 + 1 = 91; rw [n_179]
theorem zb_181 : Zb C_181 := Zb.w (M := C_180) zb_180 (by decide +kernel)
theorem n_181 : C_181.1 = 91 := n_180
theorem zb_182 : Zb C_182 := Zb.n (M := C_181) 91 zb_181 n_181 (by decide +kernel)
theorem n_182 : C_182.1 = 92 := by show C_181.1 + 1 = 92; rw [n_181]
theorem zb_183 : Zb C_183 := Zb.w (M := C_182) zb_182 (by decide +kernel)
theorem n_183 : C_183.1 = 92 := n_182
theorem zb_184 : Zb C_184 := Zb.n (M := C_183) 92 zb_183 n_183 (by decide +kernel)
theorem n_184 : C_184.1 = 93 := by show C_183.1 + 1 = 93; rw [n_183]
theorem zb_185 : Zb C_185 := Zb.w (M := C_184) zb_184 (by decide +kernel)
theorem n_185 : C_185.1 = 93 := n_184
theorem zb_186 : Zb C_186 := Zb.n (M := C_185) 93 zb_185 n_185 (by decide +kernel)
theorem n_186 : C_186.1 = 94 := by show C_185.1 + 1 = 94; rw [n_185]
theorem zb_187 : Zb C_187 := Zb.w (M := C_186) zb_186 (by decide +kernel)
theorem n_187 : C_187.1 = 94 := n_186
theorem zb_188 : Zb C_188 := Zb.n (M := C_187) 94 zb_187 n_187 (by decide +kernel)
theorem n_188 : C_188.1 = 95 := by show C_187.1 + 1 = 95; rw [n_187]
theorem zb_189 : Zb C_189 := Zb.w (M := C_188) zb_188 (by decide +kernel)
theorem n_189 : C_189.1 = 95 := n_188
theorem zb_190 : Zb C_190 := Zb.n (M := C_189) 95 zb_189 n_189 (by decide +kernel)
theorem n_190 : C_190.1 = 96 := by show C_189.1 + 1 = 96; rw [n_189]
theorem zb_191 : Zb C_191 := Zb.w (M := C_190) zb_190 (by decide +kernel)
theorem n_191 : C_191.1 = 96 := n_190
theorem zb_192 : Zb C_192 := Zb.n (M := C_191) 96 zb_191 n_191 (by decide +kernel)
theorem n_192 : C_192.1 = 97 := by show C_191.1 + 1 = 97; rw [n_191]
theorem zb_193 : Zb C_193 := Zb.w (M := C_192) zb_192 (by decide +kernel)
theorem n_193 : C_193.1 = 97 := n_192
theorem zb_194 : Zb C_194 := Zb.n (M := C_193) 97 zb_193 n_193 (by decide +kernel)
theorem n_194 : C_194.1 = 98 := by show C_193.1 + 1 = 98; rw [n_193]
theorem zb_195 : Zb C_195 := Zb.w (M := C_194) zb_194 (by decide +kernel)
theorem n_195 : C_195.1 = 98 := n_194
theorem zb_196 : Zb C_196 := Zb.n (M := C_195) 98 zb_195 n_195 (by decide +kernel)
theorem n_196 : C_196.1 = 99 := by show C_195.1 + 1 = 99; rw [n_195]
theorem zb_197 : Zb C_197 := Zb.w (M := C_196) zb_196 (by decide +kernel)
theorem n_197 : C_197.1 = 99 := n_196
theorem zb_198 : Zb C_198 := Zb.n (M := C_197) 99 zb_197 n_197 (by decide +kernel)
theorem n_198 : C_198.1 = 100 := by show C_197.1 + 1 = 100; rw [n_197]
theorem zb_199 : Zb C_199 := Zb.w (M := C_198) zb_198 (by decide +kernel)
theorem n_199 : C_199.1 = 100 := n_198
theorem zb_200 : Zb C_200 := Zb.w (M := C_199) zb_199 (by decide +kernel)
theorem n_200 : C_200.1 = 100 := n_199
theorem zb_201 : Zb C_201 := Zb.w (M := C_200) zb_200 (by decide +kernel)
theorem n_201 : C_201.1 = 100 := n_200
theorem zb_202 : Zb C_202 := Zb.w (M := C_201) zb_201 (by decide +kernel)
theorem n_202 : C_202.1 = 100 := n_201
theorem zb_203 : Zb C_203 := Zb.w (M := C_202) zb_202 (by decide +kernel)
theorem n_203 : C_203.1 = 100 := n_202
theorem zb_204 : Zb C_204 := Zb.n (M := C_203) 100 zb_203 n_203 (by decide +kernel)
theorem n_204 : C_204.1 = 101 := by show C_203.1 + 1 = 101; rw [n_203]
theorem zb_205 : Zb C_205 := Zb.n (M := C_204) 101 zb_204 n_204 (by decide +kernel)
theorem n_205 : C_205.1 = 102 := by show C_204.1 + 1 = 102; rw [n_204]
theorem zb_206 : Zb C_206 := Zb.w (M := C_205) zb_205 (by decide +kernel)
theorem n_206 : C_206.1 = 102 := n_205
theorem zb_207 : Zb C_207 := Zb.n (M := C_206) 102 zb_206 n_206 (by decide +kernel)
theorem n_207 : C_207.1 = 103 := by show C_206.1 + 1 = 103; rw [n_206]
theorem zb_208 : Zb C_208 := Zb.w (M := C_207) zb_207 (by decide +kernel)
theorem n_208 : C_208.1 = 103 := n_207
theorem zb_209 : Zb C_209 := Zb.w (M := C_208) zb_208 (by decide +kernel)
theorem n_209 : C_209.1 = 103 := n_208
theorem zb_210 : Zb C_210 := Zb.w (M := C_209) zb_209 (by decide +kernel)
theorem n_210 : C_210.1 = 103 := n_209
theorem zb_211 : Zb C_211 := Zb.n (M := C_210) 103 zb_210 n_210 (by decide +kernel)
theorem n_211 : C_211.1 = 104 := by show C_210.1 + 1 = 104; rw [n_210]
theorem zb_212 : Zb C_212 := Zb.n (M := C_211) 104 zb_211 n_211 (by decide +kernel)
theorem n_212 : C_212.1 = 105 := by show C_211.1 + 1 = 105; rw [n_211]
theorem zb_213 : Zb C_213 := Zb.w (M := C_212) zb_212 (by decide +kernel)
theorem n_213 : C_213.1 = 105 := n_212
theorem zb_214 : Zb C_214 := Zb.n (M := C_213) 105 zb_213 n_213 (by decide +kernel)
theorem n_214 : C_214.1 = 106 := by show C_213.1 + 1 = 106; rw [n_213]
theorem zb_215 : Zb C_215 := Zb.w (M := C_214) zb_214 (by decide +kernel)
theorem n_215 : C_215.1 = 106 := n_214
theorem zb_216 : Zb C_216 := Zb.n (M := C_215) 106 zb_215 n_215 (by decide +kernel)
theorem n_216 : C_216.1 = 107 := by show C_215.1 + 1 = 107; rw [n_215]
theorem zb_217 : Zb C_217 := Zb.w (M := C_216) zb_216 (by decide +kernel)
theorem n_217 : C_217.1 = 107 := n_216
theorem zb_218 : Zb C_218 := Zb.w (M := C_217) zb_217 (by decide +kernel)
theorem n_218 : C_218.1 = 107 := n_217
theorem zb_219 : Zb C_219 := Zb.n (M := C_218) 107 zb_218 n_218 (by decide +kernel)
theorem n_219 : C_219.1 = 108 := by show C_218.1 + 1 = 108; rw [n_218]
theorem zb_220 : Zb C_220 := Zb.n (M := C_219) 108 zb_219 n_219 (by decide +kernel)
theorem n_220 : C_220.1 = 109 := by show C_219.1 + 1 = 109; rw [n_219]
theorem zb_221 : Zb C_221 := Zb.w (M := C_220) zb_220 (by decide +kernel)
theorem n_221 : C_221.1 = 109 := n_220
theorem zb_222 : Zb C_222 := Zb.n (M := C_221) 109 zb_221 n_221 (by decide +kernel)
theorem n_222 : C_222.1 = 110 := by show C_221.1 + 1 = 110; rw [n_221]
theorem zb_223 : Zb C_223 := Zb.w (M := C_222) zb_222 (by decide +kernel)
theorem n_223 : C_223.1 = 110 := n_222
theorem zb_224 : Zb C_224 := Zb.n (M := C_223) 110 zb_223 n_223 (by decide +kernel)
theorem n_224 : C_224.1 = 111 := by show C_223.1 + 1 = 111; rw [n_223]
theorem zb_225 : Zb C_225 := Zb.w (M := C_224) zb_224 (by decide +kernel)
theorem n_225 : C_225.1 = 111 := n_224
theorem zb_226 : Zb C_226 := Zb.n (M := C_225) 111 zb_225 n_225 (by decide +kernel)
theorem n_226 : C_226.1 = 112 := by show C_225.1 + 1 = 112; rw [n_225]
theorem zb_227 : Zb C_227 := Zb.w (M := C_226) zb_226 (by decide +kernel)
theorem n_227 : C_227.1 = 112 := n_226
theorem zb_228 : Zb C_228 := Zb.n (M := C_227) 112 zb_227 n_227 (by decide +kernel)
theorem n_228 : C_228.1 = 113 := by show C_227.1 + 1 = 113; rw [n_227]
theorem zb_229 : Zb C_229 := Zb.w (M := C_228) zb_228 (by decide +kernel)
theorem n_229 : C_229.1 = 113 := n_228
theorem zb_230 : Zb C_230 := Zb.w (M := C_229) zb_229 (by decide +kernel)
theorem n_230 : C_230.1 = 113 := n_229
theorem zb_231 : Zb C_231 := Zb.n (M := C_230) 113 zb_230 n_230 (by decide +kernel)
theorem n_231 : C_231.1 = 114 := by show C_230.1 + 1 = 114; rw [n_230]
theorem zb_232 : Zb C_232 := Zb.n (M := C_231) 114 zb_231 n_231 (by decide +kernel)
theorem n_232 : C_232.1 = 115 := by show C_231.1 + 1 = 115; rw [n_231]
theorem zb_233 : Zb C_233 := Zb.w (M := C_232) zb_232 (by decide +kernel)
theorem n_233 : C_233.1 = 115 := n_232
theorem zb_234 : Zb C_234 := Zb.n (M := C_233) 115 zb_233 n_233 (by decide +kernel)
theorem n_234 : C_234.1 = 116 := by show C_233.1 + 1 = 116; rw [n_233]
theorem zb_235 : Zb C_235 := Zb.w (M := C_234) zb_234 (by decide +kernel)
theorem n_235 : C_235.1 = 116 := n_234
theorem zb_236 : Zb C_236 := Zb.n (M := C_235) 116 zb_235 n_235 (by decide +kernel)
theorem n_236 : C_236.1 = 117 := by show C_235.1 + 1 = 117; rw [n_235]
theorem zb_237 : Zb C_237 := Zb.w (M := C_236) zb_236 (by decide +kernel)
theorem n_237 : C_237.1 = 117 := n_236
theorem zb_238 : Zb C_238 := Zb.n (M := C_237) 117 zb_237 n_237 (by decide +kernel)
theorem n_238 : C_238.1 = 118 := by show C_237.1 + 1 = 118; rw [n_237]
theorem zb_239 : Zb C_239 := Zb.w (M := C_238) zb_238 (by decide +kernel)
theorem n_239 : C_239.1 = 118 := n_238
theorem zb_240 : Zb C_240 := Zb.n (M := C_239) 118 zb_239 n_239 (by decide +kernel)
theorem n_240 : C_240.1 = 119 := by show C_239.1 + 1 = 119; rw [n_239]
theorem zb_241 : Zb C_241 := Zb.w (M := C_240) zb_240 (by decide +kernel)
theorem n_241 : C_241.1 = 119 := n_240
theorem zb_242 : Zb C_242 := Zb.n (M := C_241) 119 zb_241 n_241 (by decide +kernel)
theorem n_242 : C_242.1 = 120 := by show C_241.1 + 1 = 120; rw [n_241]
theorem zb_243 : Zb C_243 := Zb.w (M := C_242) zb_242 (by decide +kernel)
theorem n_243 : C_243.1 = 120 := n_242
theorem zb_244 : Zb C_244 := Zb.w (M := C_243) zb_243 (by decide +kernel)
theorem n_244 : C_244.1 = 120 := n_243
theorem zb_245 : Zb C_245 := Zb.w (M := C_244) zb_244 (by decide +kernel)
theorem n_245 : C_245.1 = 120 := n_244
theorem zb_246 : Zb C_246 := Zb.w (M := C_245) zb_245 (by decide +kernel)
theorem n_246 : C_246.1 = 120 := n_245
theorem zb_247 : Zb C_247 := Zb.w (M := C_246) zb_246 (by decide +kernel)
theorem n_247 : C_247.1 = 120 := n_246
theorem zb_248 : Zb C_248 := Zb.w (M := C_247) zb_247 (by decide +kernel)
theorem n_248 : C_248.1 = 120 := n_247
theorem zb_249 : Zb C_249 := Zb.f (M := C_248) zb_248 (by decide +kernel)
theorem n_249 : C_249.1 = 120 := n_248
theorem zb_250 : Zb C_250 := Zb.f (M := C_249) zb_249 (by decide +kernel)
theorem n_250 : C_250.1 = 120 := n_249
theorem zb_251 : Zb C_251 := Zb.f (M := C_250) zb_250 (by decide +kernel)
theorem n_251 : C_251.1 = 120 := n_250
theorem zb_252 : Zb C_252 := Zb.f (M := C_251) zb_251 (by decide +kernel)
theorem n_252 : C_252.1 = 120 := n_251
theorem zb_253 : Zb C_253 := Zb.f (M := C_252) zb_252 (by decide +kernel)
theorem n_253 : C_253.1 = 120 := n_252
theorem zb_254 : Zb C_254 := Zb.w (M := C_253) zb_253 (by decide +kernel)
theorem n_254 : C_254.1 = 120 := n_253
theorem zb_255 : Zb C_255 := Zb.w (M := C_254) zb_254 (by decide +kernel)
theorem n_255 : C_255.1 = 120 := n_254
theorem zb_256 : Zb C_256 := Zb.w (M := C_255) zb_255 (by decide +kernel)
theorem n_256 : C_256.1 = 120 := n_255
theorem zb_257 : Zb C_257 := Zb.w (M := C_256) zb_256 (by decide +kernel)
theorem n_257 : C_257.1 = 120 := n_256
theorem zb_258 : Zb C_258 := Zb.w (M := C_257) zb_257 (by decide +kernel)
theorem n_258 : C_258.1 = 120 := n_257
theorem zb_259 : Zb C_259 := Zb.w (M := C_258) zb_258 (by decide +kernel)
theorem n_259 : C_259.1 = 120 := n_258
theorem zb_260 : Zb C_260 := Zb.f (M := C_259) zb_259 (by decide +kernel)
theorem n_260 : C_260.1 = 120 := n_259
theorem zb_261 : Zb C_261 := Zb.f (M := C_260) zb_260 (by decide +kernel)
theorem n_261 : C_261.1 = 120 := n_260
theorem zb_262 : Zb C_262 := Zb.f (M := C_261) zb_261 (by decide +kernel)
theorem n_262 : C_262.1 = 120 := n_261
theorem zb_263 : Zb C_263 := Zb.f (M := C_262) zb_262 (by decide +kernel)
theorem n_263 : C_263.1 = 120 := n_262
theorem zb_264 : Zb C_264 := Zb.f (M := C_263) zb_263 (by decide +kernel)
theorem n_264 : C_264.1 = 120 := n_263
theorem zb_265 : Zb C_265 := Zb.w (M := C_264) zb_264 (by decide +kernel)
theorem n_265 : C_265.1 = 120 := n_264
theorem zb_266 : Zb C_266 := Zb.w (M := C_265) zb_265 (by decide +kernel)
theorem n_266 : C_266.1 = 120 := n_265
theorem zb_267 : Zb C_267 := Zb.n (M := C_266) 120 zb_266 n_266 (by decide +kernel)
theorem n_267 : C_267.1 = 121 := by show C_266.1 + 1 = 121; rw [n_266]
theorem zb_268 : Zb C_268 := Zb.n (M := C_267) 121 zb_267 n_267 (by decide +kernel)
theorem n_268 : C_268.1 = 122 := by show C_267.1 + 1 = 122; rw [n_267]
theorem zb_269 : Zb C_269 := Zb.w (M := C_268) zb_268 (by decide +kernel)
theorem n_269 : C_269.1 = 122 := n_268
theorem zb_270 : Zb C_270 := Zb.w (M := C_269) zb_269 (by decide +kernel)
theorem n_270 : C_270.1 = 122 := n_269
theorem zb_271 : Zb C_271 := Zb.w (M := C_270) zb_270 (by decide +kernel)
theorem n_271 : C_271.1 = 122 := n_270
theorem zb_272 : Zb C_272 := Zb.w (M := C_271) zb_271 (by decide +kernel)
theorem n_272 : C_272.1 = 122 := n_271
theorem zb_273 : Zb C_273 := Zb.w (M := C_272) zb_272 (by decide +kernel)
theorem n_273 : C_273.1 = 122 := n_272
theorem zb_274 : Zb C_274 := Zb.w (M := C_273) zb_273 (by decide +kernel)
theorem n_274 : C_274.1 = 122 := n_273
theorem zb_275 : Zb C_275 := Zb.w (M := C_274) zb_274 (by decide +kernel)
theorem n_275 : C_275.1 = 122 := n_274
theorem zb_276 : Zb C_276 := Zb.w (M := C_275) zb_275 (by decide +kernel)
theorem n_276 : C_276.1 = 122 := n_275
theorem zb_277 : Zb C_277 := Zb.w (M := C_276) zb_276 (by decide +kernel)
theorem n_277 : C_277.1 = 122 := n_276
theorem zb_278 : Zb C_278 := Zb.w (M := C_277) zb_277 (by decide +kernel)
theorem n_278 : C_278.1 = 122 := n_277
theorem zb_279 : Zb C_279 := Zb.w (M := C_278) zb_278 (by decide +kernel)
theorem n_279 : C_279.1 = 122 := n_278
theorem zb_280 : Zb C_280 := Zb.w (M := C_279) zb_279 (by decide +kernel)
theorem n_280 : C_280.1 = 122 := n_279
theorem zb_281 : Zb C_281 := Zb.w (M := C_280) zb_280 (by decide +kernel)
theorem n_281 : C_281.1 = 122 := n_280
theorem zb_282 : Zb C_282 := Zb.n (M := C_281) 122 zb_281 n_281 (by decide +kernel)
theorem n_282 : C_282.1 = 123 := by show C_281.1 + 1 = 123; rw [n_281]
theorem zb_283 : Zb C_283 := Zb.w (M := C_282) zb_282 (by decide +kernel)
theorem n_283 : C_283.1 = 123 := n_282
theorem zb_284 : Zb C_284 := Zb.n (M := C_283) 123 zb_283 n_283 (by decide +kernel)
theorem n_284 : C_284.1 = 124 := by show C_283.1 + 1 = 124; rw [n_283]
theorem zb_285 : Zb C_285 := Zb.w (M := C_284) zb_284 (by decide +kernel)
theorem n_285 : C_285.1 = 124 := n_284
theorem zb_286 : Zb C_286 := Zb.n (M := C_285) 124 zb_285 n_285 (by decide +kernel)
theorem n_286 : C_286.1 = 125 := by show C_285.1 + 1 = 125; rw [n_285]
theorem zb_287 : Zb C_287 := Zb.w (M := C_286) zb_286 (by decide +kernel)
theorem n_287 : C_287.1 = 125 := n_286
theorem zb_288 : Zb C_288 := Zb.n (M := C_287) 125 zb_287 n_287 (by decide +kernel)
theorem n_288 : C_288.1 = 126 := by show C_287.1 + 1 = 126; rw [n_287]
theorem zb_289 : Zb C_289 := Zb.w (M := C_288) zb_288 (by decide +kernel)
theorem n_289 : C_289.1 = 126 := n_288
theorem zb_290 : Zb C_290 := Zb.n (M := C_289) 126 zb_289 n_289 (by decide +kernel)
theorem n_290 : C_290.1 = 127 := by show C_289.1 + 1 = 127; rw [n_289]
theorem zb_291 : Zb C_291 := Zb.w (M := C_290) zb_290 (by decide +kernel)
theorem n_291 : C_291.1 = 127 := n_290
theorem zb_292 : Zb C_292 := Zb.n (M := C_291) 127 zb_291 n_291 (by decide +kernel)
theorem n_292 : C_292.1 = 128 := by show C_291.1 + 1 = 128; rw [n_291]
theorem zb_293 : Zb C_293 := Zb.w (M := C_292) zb_292 (by decide +kernel)
theorem n_293 : C_293.1 = 128 := n_292
theorem zb_294 : Zb C_294 := Zb.n (M := C_293) 128 zb_293 n_293 (by decide +kernel)
theorem n_294 : C_294.1 = 129 := by show C_293.1 + 1 = 129; rw [n_293]
theorem zb_295 : Zb C_295 := Zb.w (M := C_294) zb_294 (by decide +kernel)
theorem n_295 : C_295.1 = 129 := n_294
theorem zb_296 : Zb C_296 := Zb.n (M := C_295) 129 zb_295 n_295 (by decide +kernel)
theorem n_296 : C_296.1 = 130 := by show C_295.1 + 1 = 130; rw [n_295]
theorem zb_297 : Zb C_297 := Zb.w (M := C_296) zb_296 (by decide +kernel)
theorem n_297 : C_297.1 = 130 := n_296
theorem zb_298 : Zb C_298 := Zb.n (M := C_297) 130 zb_297 n_297 (by decide +kernel)
theorem n_298 : C_298.1 = 131 := by show C_297.1 + 1 = 131; rw [n_297]
theorem zb_299 : Zb C_299 := Zb.w (M := C_298) zb_298 (by decide +kernel)
theorem n_299 : C_299.1 = 131 := n_298
theorem zb_300 : Zb C_300 := Zb.n (M := C_299) 131 zb_299 n_299 (by decide +kernel)
theorem n_300 : C_300.1 = 132 := by show C_299.1 + 1 = 132; rw [n_299]
theorem zb_301 : Zb C_301 := Zb.w (M := C_300) zb_300 (by decide +kernel)
theorem n_301 : C_301.1 = 132 := n_300
theorem zb_302 : Zb C_302 := Zb.n (M := C_301) 132 zb_301 n_301 (by decide +kernel)
theorem n_302 : C_302.1 = 133 := by show C_301.1 + 1 = 133; rw [n_301]
theorem zb_303 : Zb C_303 := Zb.w (M := C_302) zb_302 (by decide +kernel)
theorem n_303 : C_303.1 = 133 := n_302
theorem zb_304 : Zb C_304 := Zb.n (M := C_303) 133 zb_303 n_303 (by decide +kernel)
theorem n_304 : C_304.1 = 134 := by show C_303.1 + 1 = 134; rw [n_303]
theorem zb_305 : Zb C_305 := Zb.w (M := C_304) zb_304 (by decide +kernel)
theorem n_305 : C_305.1 = 134 := n_304
theorem zb_306 : Zb C_306 := Zb.n (M := C_305) 134 zb_305 n_305 (by decide +kernel)
theorem n_306 : C_306.1 = 135 := by show C_305.1 + 1 = 135; rw [n_305]
theorem zb_307 : Zb C_307 := Zb.w (M := C_306) zb_306 (by decide +kernel)
theorem n_307 : C_307.1 = 135 := n_306
theorem zb_308 : Zb C_308 := Zb.n (M := C_307) 135 zb_307 n_307 (by decide +kernel)
theorem n_308 : C_308.1 = 136 := by show C_307.1 + 1 = 136; rw [n_307]
theorem zb_309 : Zb C_309 := Zb.w (M := C_308) zb_308 (by decide +kernel)
theorem n_309 : C_309.1 = 136 := n_308
theorem zb_310 : Zb C_310 := Zb.n (M := C_309) 136 zb_309 n_309 (by decide +kernel)
theorem n_310 : C_310.1 = 137 := by show C_309.1 + 1 = 137; rw [n_309]
theorem zb_311 : Zb C_311 := Zb.w (M := C_310) zb_310 (by decide +kernel)
theorem n_311 : C_311.1 = 137 := n_310
theorem zb_312 : Zb C_312 := Zb.n (M := C_311) 137 zb_311 n_311 (by decide +kernel)
theorem n_312 : C_312.1 = 138 := by show C_311.1 + 1 = 138; rw [n_311]
theorem zb_313 : Zb C_313 := Zb.w (M := C_312) zb_312 (by decide +kernel)
theorem n_313 : C_313.1 = 138 := n_312
theorem zb_314 : Zb C_314 := Zb.n (M := C_313) 138 zb_313 n_313 (by decide +kernel)
theorem n_314 : C_314.1 = 139 := by show C_313.1 + 1 = 139; rw [n_313]
theorem zb_315 : Zb C_315 := Zb.w (M := C_314) zb_314 (by decide +kernel)
theorem n_315 : C_315.1 = 139 := n_314
theorem zb_316 : Zb C_316 := Zb.n (M := C_315) 139 zb_315 n_315 (by decide +kernel)
theorem n_316 : C_316.1 = 140 := by show C_315.1 + 1 = 140; rw [n_315]
theorem zb_317 : Zb C_317 := Zb.w (M := C_316) zb_316 (by decide +kernel)
theorem n_317 : C_317.1 = 140 := n_316
theorem zb_318 : Zb C_318 := Zb.n (M := C_317) 140 zb_317 n_317 (by decide +kernel)
theorem n_318 : C_318.1 = 141 := by show C_317.1 + 1 = 141; rw [n_317]
theorem zb_319 : Zb C_319 := Zb.w (M := C_318) zb_318 (by decide +kernel)
theorem n_319 : C_319.1 = 141 := n_318
theorem zb_320 : Zb C_320 := Zb.n (M := C_319) 141 zb_319 n_319 (by decide +kernel)
theorem n_320 : C_320.1 = 142 := by show C_319.1 + 1 = 142; rw [n_319]
theorem zb_321 : Zb C_321 := Zb.w (M := C_320) zb_320 (by decide +kernel)
theorem n_321 : C_321.1 = 142 := n_320
theorem zb_322 : Zb C_322 := Zb.n (M := C_321) 142 zb_321 n_321 (by decide +kernel)
theorem n_322 : C_322.1 = 143 := by show C_321.1 + 1 = 143; rw [n_321]
theorem zb_323 : Zb C_323 := Zb.w (M := C_322) zb_322 (by decide +kernel)
theorem n_323 : C_323.1 = 143 := n_322
theorem zb_324 : Zb C_324 := Zb.n (M := C_323) 143 zb_323 n_323 (by decide +kernel)
theorem n_324 : C_324.1 = 144 := by show C_323.1 + 1 = 144; rw [n_323]
theorem zb_325 : Zb C_325 := Zb.w (M := C_324) zb_324 (by decide +kernel)
theorem n_325 : C_325.1 = 144 := n_324
theorem zb_326 : Zb C_326 := Zb.n (M := C_325) 144 zb_325 n_325 (by decide +kernel)
theorem n_326 : C_326.1 = 145 := by show C_325.1 + 1 = 145; rw [n_325]
theorem zb_327 : Zb C_327 := Zb.w (M := C_326) zb_326 (by decide +kernel)
theorem n_327 : C_327.1 = 145 := n_326
theorem zb_328 : Zb C_328 := Zb.w (M := C_327) zb_327 (by decide +kernel)
theorem n_328 : C_328.1 = 145 := n_327
theorem zb_329 : Zb C_329 := Zb.w (M := C_328) zb_328 (by decide +kernel)
theorem n_329 : C_329.1 = 145 := n_328
theorem zb_330 : Zb C_330 := Zb.n (M := C_329) 145 zb_329 n_329 (by decide +kernel)
theorem n_330 : C_330.1 = 146 := by show C_329.1 + 1 = 146; rw [n_329]
theorem zb_331 : Zb C_331 := Zb.w (M := C_330) zb_330 (by decide +kernel)
theorem n_331 : C_331.1 = 146 := n_330
theorem zb_332 : Zb C_332 := Zb.n (M := C_331) 146 zb_331 n_331 (by decide +kernel)
theorem n_332 : C_332.1 = 147 := by show C_331.1 + 1 = 147; rw [n_331]
theorem zb_333 : Zb C_333 := Zb.w (M := C_332) zb_332 (by decide +kernel)
theorem n_333 : C_333.1 = 147 := n_332
theorem zb_334 : Zb C_334 := Zb.n (M := C_333) 147 zb_333 n_333 (by decide +kernel)
theorem n_334 : C_334.1 = 148 := by show C_333.1 + 1 = 148; rw [n_333]
theorem zb_335 : Zb C_335 := Zb.w (M := C_334) zb_334 (by decide +kernel)
theorem n_335 : C_335.1 = 148 := n_334
theorem zb_336 : Zb C_336 := Zb.n (M := C_335) 148 zb_335 n_335 (by decide +kernel)
theorem n_336 : C_336.1 = 149 := by show C_335.1 + 1 = 149; rw [n_335]
theorem zb_337 : Zb C_337 := Zb.w (M := C_336) zb_336 (by decide +kernel)
theorem n_337 : C_337.1 = 149 := n_336
theorem zb_338 : Zb C_338 := Zb.n (M := C_337) 149 zb_337 n_337 (by decide +kernel)
theorem n_338 : C_338.1 = 150 := by show C_337.1 + 1 = 150; rw [n_337]
theorem zb_339 : Zb C_339 := Zb.w (M := C_338) zb_338 (by decide +kernel)
theorem n_339 : C_339.1 = 150 := n_338
theorem zb_340 : Zb C_340 := Zb.w (M := C_339) zb_339 (by decide +kernel)
theorem n_340 : C_340.1 = 150 := n_339
theorem zb_341 : Zb C_341 := Zb.w (M := C_340) zb_340 (by decide +kernel)
theorem n_341 : C_341.1 = 150 := n_340
theorem zb_342 : Zb C_342 := Zb.n (M := C_341) 150 zb_341 n_341 (by decide +kernel)
theorem n_342 : C_342.1 = 151 := by show C_341.1 + 1 = 151; rw [n_341]
theorem zb_343 : Zb C_343 := Zb.w (M := C_342) zb_342 (by decide +kernel)
theorem n_343 : C_343.1 = 151 := n_342
theorem zb_344 : Zb C_344 := Zb.w (M := C_343) zb_343 (by decide +kernel)
theorem n_344 : C_344.1 = 151 := n_343
theorem zb_345 : Zb C_345 := Zb.w (M := C_344) zb_344 (by decide +kernel)
theorem n_345 : C_345.1 = 151 := n_344
theorem zb_346 : Zb C_346 := Zb.n (M := C_345) 151 zb_345 n_345 (by decide +kernel)
theorem n_346 : C_346.1 = 152 := by show C_345.1 + 1 = 152; rw [n_345]
theorem zb_347 : Zb C_347 := Zb.w (M := C_346) zb_346 (by decide +kernel)
theorem n_347 : C_347.1 = 152 := n_346
theorem zb_348 : Zb C_348 := Zb.n (M := C_347) 152 zb_347 n_347 (by decide +kernel)
theorem n_348 : C_348.1 = 153 := by show C_347.1 + 1 = 153; rw [n_347]
theorem zb_349 : Zb C_349 := Zb.w (M := C_348) zb_348 (by decide +kernel)
theorem n_349 : C_349.1 = 153 := n_348
theorem zb_350 : Zb C_350 := Zb.w (M := C_349) zb_349 (by decide +kernel)
theorem n_350 : C_350.1 = 153 := n_349
theorem zb_351 : Zb C_351 := Zb.n (M := C_350) 153 zb_350 n_350 (by decide +kernel)
theorem n_351 : C_351.1 = 154 := by show C_350.1 + 1 = 154; rw [n_350]
theorem zb_352 : Zb C_352 := Zb.w (M := C_351) zb_351 (by decide +kernel)
theorem n_352 : C_352.1 = 154 := n_351
theorem zb_353 : Zb C_353 := Zb.n (M := C_352) 154 zb_352 n_352 (by decide +kernel)
theorem n_353 : C_353.1 = 155 := by show C_352.1 + 1 = 155; rw [n_352]
theorem zb_354 : Zb C_354 := Zb.w (M := C_353) zb_353 (by decide +kernel)
theorem n_354 : C_354.1 = 155 := n_353
theorem zb_355 : Zb C_355 := Zb.n (M := C_354) 155 zb_354 n_354 (by decide +kernel)
theorem n_355 : C_355.1 = 156 := by show C_354.1 + 1 = 156; rw [n_354]
theorem zb_356 : Zb C_356 := Zb.w (M := C_355) zb_355 (by decide +kernel)
theorem n_356 : C_356.1 = 156 := n_355
theorem zb_357 : Zb C_357 := Zb.n (M := C_356) 156 zb_356 n_356 (by decide +kernel)
theorem n_357 : C_357.1 = 157 := by show C_356.1 + 1 = 157; rw [n_356]
theorem zb_358 : Zb C_358 := Zb.w (M := C_357) zb_357 (by decide +kernel)
theorem n_358 : C_358.1 = 157 := n_357
theorem zb_359 : Zb C_359 := Zb.n (M := C_358) 157 zb_358 n_358 (by decide +kernel)
theorem n_359 : C_359.1 = 158 := by show C_358.1 + 1 = 158; rw [n_358]
theorem zb_360 : Zb C_360 := Zb.w (M := C_359) zb_359 (by decide +kernel)
theorem n_360 : C_360.1 = 158 := n_359
theorem zb_361 : Zb C_361 := Zb.n (M := C_360) 158 zb_360 n_360 (by decide +kernel)
theorem n_361 : C_361.1 = 159 := by show C_360.1 + 1 = 159; rw [n_360]
theorem zb_362 : Zb C_362 := Zb.w (M := C_361) zb_361 (by decide +kernel)
theorem n_362 : C_362.1 = 159 := n_361
theorem zb_363 : Zb C_363 := Zb.n (M := C_362) 159 zb_362 n_362 (by decide +kernel)
theorem n_363 : C_363.1 = 160 := by show C_362.1 + 1 = 160; rw [n_362]
theorem zb_364 : Zb C_364 := Zb.w (M := C_363) zb_363 (by decide +kernel)
theorem n_364 : C_364.1 = 160 := n_363
theorem zb_365 : Zb C_365 := Zb.n (M := C_364) 160 zb_364 n_364 (by decide +kernel)
theorem n_365 : C_365.1 = 161 := by show C_364.1 + 1 = 161; rw [n_364]
theorem zb_366 : Zb C_366 := Zb.w (M := C_365) zb_365 (by decide +kernel)
theorem n_366 : C_366.1 = 161 := n_365
theorem zb_367 : Zb C_367 := Zb.w (M := C_366) zb_366 (by decide +kernel)
theorem n_367 : C_367.1 = 161 := n_366
theorem zb_368 : Zb C_368 := Zb.w (M := C_367) zb_367 (by decide +kernel)
theorem n_368 : C_368.1 = 161 := n_367
theorem zb_369 : Zb C_369 := Zb.w (M := C_368) zb_368 (by decide +kernel)
theorem n_369 : C_369.1 = 161 := n_368
theorem zb_370 : Zb C_370 := Zb.w (M := C_369) zb_369 (by decide +kernel)
theorem n_370 : C_370.1 = 161 := n_369
theorem zb_371 : Zb C_371 := Zb.w (M := C_370) zb_370 (by decide +kernel)
theorem n_371 : C_371.1 = 161 := n_370
theorem zb_372 : Zb C_372 := Zb.w (M := C_371) zb_371 (by decide +kernel)
theorem n_372 : C_372.1 = 161 := n_371
theorem zb_373 : Zb C_373 := Zb.w (M := C_372) zb_372 (by decide +kernel)
theorem n_373 : C_373.1 = 161 := n_372
theorem zb_374 : Zb C_374 := Zb.w (M := C_373) zb_373 (by decide +kernel)
theorem n_374 : C_374.1 = 161 := n_373
theorem zb_375 : Zb C_375 := Zb.w (M := C_374) zb_374 (by decide +kernel)
theorem n_375 : C_375.1 = 161 := n_374
theorem zb_376 : Zb C_376 := Zb.w (M := C_375) zb_375 (by decide +kernel)
theorem n_376 : C_376.1 = 161 := n_375
theorem zb_377 : Zb C_377 := Zb.n (M := C_376) 161 zb_376 n_376 (by decide +kernel)
theorem n_377 : C_377.1 = 162 := by show C_376.1 + 1 = 162; rw [n_376]
theorem zb_378 : Zb C_378 := Zb.w (M := C_377) zb_377 (by decide +kernel)
theorem n_378 : C_378.1 = 162 := n_377
theorem zb_379 : Zb C_379 := Zb.w (M := C_378) zb_378 (by decide +kernel)
theorem n_379 : C_379.1 = 162 := n_378
theorem zb_380 : Zb C_380 := Zb.n (M := C_379) 162 zb_379 n_379 (by decide +kernel)
theorem n_380 : C_380.1 = 163 := by show C_379.1 + 1 = 163; rw [n_379]
theorem zb_381 : Zb C_381 := Zb.w (M := C_380) zb_380 (by decide +kernel)
theorem n_381 : C_381.1 = 163 := n_380
theorem zb_382 : Zb C_382 := Zb.n (M := C_381) 163 zb_381 n_381 (by decide +kernel)
theorem n_382 : C_382.1 = 164 := by show C_381.1 + 1 = 164; rw [n_381]
theorem zb_383 : Zb C_383 := Zb.w (M := C_382) zb_382 (by decide +kernel)
theorem n_383 : C_383.1 = 164 := n_382
theorem zb_384 : Zb C_384 := Zb.n (M := C_383) 164 zb_383 n_383 (by decide +kernel)
theorem n_384 : C_384.1 = 165 := by show C_383.1 + 1 = 165; rw [n_383]
theorem zb_385 : Zb C_385 := Zb.w (M := C_384) zb_384 (by decide +kernel)
theorem n_385 : C_385.1 = 165 := n_384
theorem zb_386 : Zb C_386 := Zb.n (M := C_385) 165 zb_385 n_385 (by decide +kernel)
theorem n_386 : C_386.1 = 166 := by show C_385.1 + 1 = 166; rw [n_385]
theorem zb_387 : Zb C_387 := Zb.w (M := C_386) zb_386 (by decide +kernel)
theorem n_387 : C_387.1 = 166 := n_386
theorem zb_388 : Zb C_388 := Zb.w (M := C_387) zb_387 (by decide +kernel)
theorem n_388 : C_388.1 = 166 := n_387
theorem zb_389 : Zb C_389 := Zb.n (M := C_388) 166 zb_388 n_388 (by decide +kernel)
theorem n_389 : C_389.1 = 167 := by show C_388.1 + 1 = 167; rw [n_388]
theorem zb_390 : Zb C_390 := Zb.w (M := C_389) zb_389 (by decide +kernel)
theorem n_390 : C_390.1 = 167 := n_389
theorem zb_391 : Zb C_391 := Zb.n (M := C_390) 167 zb_390 n_390 (by decide +kernel)
theorem n_391 : C_391.1 = 168 := by show C_390.1 + 1 = 168; rw [n_390]
theorem zb_392 : Zb C_392 := Zb.w (M := C_391) zb_391 (by decide +kernel)
theorem n_392 : C_392.1 = 168 := n_391
theorem zb_393 : Zb C_393 := Zb.n (M := C_392) 168 zb_392 n_392 (by decide +kernel)
theorem n_393 : C_393.1 = 169 := by show C_392.1 + 1 = 169; rw [n_392]
theorem zb_394 : Zb C_394 := Zb.w (M := C_393) zb_393 (by decide +kernel)
theorem n_394 : C_394.1 = 169 := n_393
theorem zb_395 : Zb C_395 := Zb.w (M := C_394) zb_394 (by decide +kernel)
theorem n_395 : C_395.1 = 169 := n_394
theorem zb_396 : Zb C_396 := Zb.n (M := C_395) 169 zb_395 n_395 (by decide +kernel)
theorem n_396 : C_396.1 = 170 := by show C_395.1 + 1 = 170; rw [n_395]
theorem zb_397 : Zb C_397 := Zb.w (M := C_396) zb_396 (by decide +kernel)
theorem n_397 : C_397.1 = 170 := n_396
theorem zb_398 : Zb C_398 := Zb.n (M := C_397) 170 zb_397 n_397 (by decide +kernel)
theorem n_398 : C_398.1 = 171 := by show C_397.1 + 1 = 171; rw [n_397]
theorem zb_399 : Zb C_399 := Zb.w (M := C_398) zb_398 (by decide +kernel)
theorem n_399 : C_399.1 = 171 := n_398
theorem zb_400 : Zb C_400 := Zb.n (M := C_399) 171 zb_399 n_399 (by decide +kernel)
theorem n_400 : C_400.1 = 172 := by show C_399.1 + 1 = 172; rw [n_399]
theorem zb_401 : Zb C_401 := Zb.w (M := C_400) zb_400 (by decide +kernel)
theorem n_401 : C_401.1 = 172 := n_400
theorem zb_402 : Zb C_402 := Zb.n (M := C_401) 172 zb_401 n_401 (by decide +kernel)
theorem n_402 : C_402.1 = 173 := by show C_401.1 + 1 = 173; rw [n_401]
theorem zb_403 : Zb C_403 := Zb.w (M := C_402) zb_402 (by decide +kernel)
theorem n_403 : C_403.1 = 173 := n_402
theorem zb_404 : Zb C_404 := Zb.w (M := C_403) zb_403 (by decide +kernel)
theorem n_404 : C_404.1 = 173 := n_403
theorem zb_405 : Zb C_405 := Zb.w (M := C_404) zb_404 (by decide +kernel)
theorem n_405 : C_405.1 = 173 := n_404
theorem zb_406 : Zb C_406 := Zb.w (M := C_405) zb_405 (by decide +kernel)
theorem n_406 : C_406.1 = 173 := n_405
theorem zb_407 : Zb C_407 := Zb.w (M := C_406) zb_406 (by decide +kernel)
theorem n_407 : C_407.1 = 173 := n_406
theorem zb_408 : Zb C_408 := Zb.w (M := C_407) zb_407 (by decide +kernel)
theorem n_408 : C_408.1 = 173 := n_407
theorem zb_409 : Zb C_409 := Zb.w (M := C_408) zb_408 (by decide +kernel)
theorem n_409 : C_409.1 = 173 := n_408
theorem zb_410 : Zb C_410 := Zb.w (M := C_409) zb_409 (by decide +kernel)
theorem n_410 : C_410.1 = 173 := n_409
theorem zb_411 : Zb C_411 := Zb.w (M := C_410) zb_410 (by decide +kernel)
theorem n_411 : C_411.1 = 173 := n_410
theorem zb_412 : Zb C_412 := Zb.n (M := C_411) 173 zb_411 n_411 (by decide +kernel)
theorem n_412 : C_412.1 = 174 := by show C_411.1 + 1 = 174; rw [n_411]
theorem zb_413 : Zb C_413 := Zb.w (M := C_412) zb_412 (by decide +kernel)
theorem n_413 : C_413.1 = 174 := n_412
theorem zb_414 : Zb C_414 := Zb.n (M := C_413) 174 zb_413 n_413 (by decide +kernel)
theorem n_414 : C_414.1 = 175 := by show C_413.1 + 1 = 175; rw [n_413]
theorem zb_415 : Zb C_415 := Zb.w (M := C_414) zb_414 (by decide +kernel)
theorem n_415 : C_415.1 = 175 := n_414
theorem zb_416 : Zb C_416 := Zb.n (M := C_415) 175 zb_415 n_415 (by decide +kernel)
theorem n_416 : C_416.1 = 176 := by show C_415.1 + 1 = 176; rw [n_415]
theorem zb_417 : Zb C_417 := Zb.w (M := C_416) zb_416 (by decide +kernel)
theorem n_417 : C_417.1 = 176 := n_416
theorem zb_418 : Zb C_418 := Zb.w (M := C_417) zb_417 (by decide +kernel)
theorem n_418 : C_418.1 = 176 := n_417
theorem zb_419 : Zb C_419 := Zb.w (M := C_418) zb_418 (by decide +kernel)
theorem n_419 : C_419.1 = 176 := n_418
theorem zb_420 : Zb C_420 := Zb.w (M := C_419) zb_419 (by decide +kernel)
theorem n_420 : C_420.1 = 176 := n_419
theorem zb_421 : Zb C_421 := Zb.w (M := C_420) zb_420 (by decide +kernel)
theorem n_421 : C_421.1 = 176 := n_420
theorem zb_422 : Zb C_422 := Zb.w (M := C_421) zb_421 (by decide +kernel)
theorem n_422 : C_422.1 = 176 := n_421
theorem zb_423 : Zb C_423 := Zb.n (M := C_422) 176 zb_422 n_422 (by decide +kernel)
theorem n_423 : C_423.1 = 177 := by show C_422.1 + 1 = 177; rw [n_422]
theorem zb_424 : Zb C_424 := Zb.w (M := C_423) zb_423 (by decide +kernel)
theorem n_424 : C_424.1 = 177 := n_423
theorem zb_425 : Zb C_425 := Zb.w (M := C_424) zb_424 (by decide +kernel)
theorem n_425 : C_425.1 = 177 := n_424
theorem zb_426 : Zb C_426 := Zb.n (M := C_425) 177 zb_425 n_425 (by decide +kernel)
theorem n_426 : C_426.1 = 178 := by show C_425.1 + 1 = 178; rw [n_425]
theorem zb_427 : Zb C_427 := Zb.w (M := C_426) zb_426 (by decide +kernel)
theorem n_427 : C_427.1 = 178 := n_426
theorem zb_428 : Zb C_428 := Zb.n (M := C_427) 178 zb_427 n_427 (by decide +kernel)
theorem n_428 : C_428.1 = 179 := by show C_427.1 + 1 = 179; rw [n_427]
theorem zb_429 : Zb C_429 := Zb.w (M := C_428) zb_428 (by decide +kernel)
theorem n_429 : C_429.1 = 179 := n_428
theorem zb_430 : Zb C_430 := Zb.w (M := C_429) zb_429 (by decide +kernel)
theorem n_430 : C_430.1 = 179 := n_429
theorem zb_431 : Zb C_431 := Zb.n (M := C_430) 179 zb_430 n_430 (by decide +kernel)
theorem n_431 : C_431.1 = 180 := by show C_430.1 + 1 = 180; rw [n_430]
theorem zb_432 : Zb C_432 := Zb.w (M := C_431) zb_431 (by decide +kernel)
theorem n_432 : C_432.1 = 180 := n_431
theorem zb_433 : Zb C_433 := Zb.w (M := C_432) zb_432 (by decide +kernel)
theorem n_433 : C_433.1 = 180 := n_432
theorem zb_434 : Zb C_434 := Zb.n (M := C_433) 180 zb_433 n_433 (by decide +kernel)
theorem n_434 : C_434.1 = 181 := by show C_433.1 + 1 = 181; rw [n_433]
theorem zb_435 : Zb C_435 := Zb.w (M := C_434) zb_434 (by decide +kernel)
theorem n_435 : C_435.1 = 181 := n_434
theorem zb_436 : Zb C_436 := Zb.n (M := C_435) 181 zb_435 n_435 (by decide +kernel)
theorem n_436 : C_436.1 = 182 := by show C_435.1 + 1 = 182; rw [n_435]
theorem zb_437 : Zb C_437 := Zb.w (M := C_436) zb_436 (by decide +kernel)
theorem n_437 : C_437.1 = 182 := n_436
theorem zb_438 : Zb C_438 := Zb.w (M := C_437) zb_437 (by decide +kernel)
theorem n_438 : C_438.1 = 182 := n_437
theorem zb_439 : Zb C_439 := Zb.n (M := C_438) 182 zb_438 n_438 (by decide +kernel)
theorem n_439 : C_439.1 = 183 := by show C_438.1 + 1 = 183; rw [n_438]
theorem zb_440 : Zb C_440 := Zb.w (M := C_439) zb_439 (by decide +kernel)
theorem n_440 : C_440.1 = 183 := n_439
theorem zb_441 : Zb C_441 := Zb.n (M := C_440) 183 zb_440 n_440 (by decide +kernel)
theorem n_441 : C_441.1 = 184 := by show C_440.1 + 1 = 184; rw [n_440]
theorem zb_442 : Zb C_442 := Zb.w (M := C_441) zb_441 (by decide +kernel)
theorem n_442 : C_442.1 = 184 := n_441
theorem zb_443 : Zb C_443 := Zb.n (M := C_442) 184 zb_442 n_442 (by decide +kernel)
theorem n_443 : C_443.1 = 185 := by show C_442.1 + 1 = 185; rw [n_442]
theorem zb_444 : Zb C_444 := Zb.w (M := C_443) zb_443 (by decide +kernel)
theorem n_444 : C_444.1 = 185 := n_443
theorem zb_445 : Zb C_445 := Zb.w (M := C_444) zb_444 (by decide +kernel)
theorem n_445 : C_445.1 = 185 := n_444
theorem zb_446 : Zb C_446 := Zb.n (M := C_445) 185 zb_445 n_445 (by decide +kernel)
theorem n_446 : C_446.1 = 186 := by show C_445.1 + 1 = 186; rw [n_445]
theorem zb_447 : Zb C_447 := Zb.w (M := C_446) zb_446 (by decide +kernel)
theorem n_447 : C_447.1 = 186 := n_446
theorem zb_448 : Zb C_448 := Zb.n (M := C_447) 186 zb_447 n_447 (by decide +kernel)
theorem n_448 : C_448.1 = 187 := by show C_447.1 + 1 = 187; rw [n_447]
theorem zb_449 : Zb C_449 := Zb.w (M := C_448) zb_448 (by decide +kernel)
theorem n_449 : C_449.1 = 187 := n_448
theorem zb_450 : Zb C_450 := Zb.n (M := C_449) 187 zb_449 n_449 (by decide +kernel)
theorem n_450 : C_450.1 = 188 := by show C_449.1 + 1 = 188; rw [n_449]
theorem zb_451 : Zb C_451 := Zb.w (M := C_450) zb_450 (by decide +kernel)
theorem n_451 : C_451.1 = 188 := n_450
theorem zb_452 : Zb C_452 := Zb.w (M := C_451) zb_451 (by decide +kernel)
theorem n_452 : C_452.1 = 188 := n_451
theorem zb_453 : Zb C_453 := Zb.n (M := C_452) 188 zb_452 n_452 (by decide +kernel)
theorem n_453 : C_453.1 = 189 := by show C_452.1 + 1 = 189; rw [n_452]
theorem zb_454 : Zb C_454 := Zb.w (M := C_453) zb_453 (by decide +kernel)
theorem n_454 : C_454.1 = 189 := n_453
theorem zb_455 : Zb C_455 := Zb.n (M := C_454) 189 zb_454 n_454 (by decide +kernel)
theorem n_455 : C_455.1 = 190 := by show C_454.1 + 1 = 190; rw [n_454]
theorem zb_456 : Zb C_456 := Zb.w (M := C_455) zb_455 (by decide +kernel)
theorem n_456 : C_456.1 = 190 := n_455
theorem zb_457 : Zb C_457 := Zb.n (M := C_456) 190 zb_456 n_456 (by decide +kernel)
theorem n_457 : C_457.1 = 191 := by show C_456.1 + 1 = 191; rw [n_456]
theorem zb_458 : Zb C_458 := Zb.w (M := C_457) zb_457 (by decide +kernel)
theorem n_458 : C_458.1 = 191 := n_457
theorem zb_459 : Zb C_459 := Zb.w (M := C_458) zb_458 (by decide +kernel)
theorem n_459 : C_459.1 = 191 := n_458
theorem zb_460 : Zb C_460 := Zb.w (M := C_459) zb_459 (by decide +kernel)
theorem n_460 : C_460.1 = 191 := n_459
theorem zb_461 : Zb C_461 := Zb.w (M := C_460) zb_460 (by decide +kernel)
theorem n_461 : C_461.1 = 191 := n_460
set_option maxRecDepth 100000 in
set_option maxHeartbeats 4000000 in
theorem fx_0 : ∀ e ∈ fxT, rd C_461 e.1 e.2.1 = e.2.2 := fun e he => of_decide_eq_true (List.all_eq_true.mp (show fxT.all (fun e => decide (rd C_461 e.1 e.2.1 = e.2.2)) = true by decide +kernel) e he)
set_option maxRecDepth 100000 in
set_option maxHeartbeats 4000000 in
theorem iv_0 : ∀ e ∈ ivF, e.2.2.1 ≤ rd C_461 e.1 e.2.1 ∧ rd C_461 e.1 e.2.1 ≤ e.2.2.2 := fun e he => of_decide_eq_true (List.all_eq_true.mp (show ivF.all (fun e => decide (e.2.2.1 ≤ rd C_461 e.1 e.2.1 ∧ rd C_461 e.1 e.2.1 ≤ e.2.2.2)) = true by decide +kernel) e he)
theorem zr_0 {x : Int} (h : (x, 0, 0) ∈ ivZ) (j : Int) : rd C_461 x j = 0 := Int.le_antisymm (zb_461 _ h j).2 (zb_461 _ h j).1
theorem zm {x : Int} (h : (x, 0, 0) ∈ ([(24, 0, 0), (25, 0, 0), (44, 0, 0), (45, 0, 0), (143, 0, 0), (144, 0, 0)] : List (Int × Int × Int))) : (x, 0, 0) ∈ ivZ := List.mem_append_right _ h
set_option maxRecDepth 100000 in
set_option maxHeartbeats 4000000 in
theorem c_0_4 : rd C_461 0 4 = 7 := by decide +kernel
set_option maxRecDepth 100000 in
set_option maxHeartbeats 4000000 in
theorem c_0_5 : rd C_461 0 5 = 27 := by decide +kernel
set_option maxRecDepth 100000 in
set_option maxHeartbeats 4000000 in
theorem c_0_9 : rd C_461 0 9 = 0 := by decide +kernel
set_option maxRecDepth 100000 in
set_option maxHeartbeats 4000000 in
theorem c_15_0 : rd C_461 15 0 = 0 := by decide +kernel
set_option maxRecDepth 100000 in
set_option maxHeartbeats 4000000 in
theorem c_100_3 : rd C_461 100 3 = -1 := by decide +kernel
set_option maxRecDepth 100000 in
set_option maxHeartbeats 4000000 in
theorem c_120_59 : rd C_461 120 59 = -1 := by decide +kernel
set_option maxRecDepth 100000 in
set_option maxHeartbeats 4000000 in
theorem c_120_12 : rd C_461 120 12 = 0 := by decide +kernel
set_option maxRecDepth 100000 in
set_option maxHeartbeats 4000000 in
theorem c_126_0 : rd C_461 126 0 = 0 := by decide +kernel
set_option maxRecDepth 100000 in
set_option maxHeartbeats 4000000 in
theorem c_136_0 : rd C_461 136 0 = 0 := by decide +kernel
set_option maxRecDepth 100000 in
set_option maxHeartbeats 4000000 in
theorem c_123_0 : rd C_461 123 0 = 1 := by decide +kernel
set_option maxRecDepth 100000 in
set_option maxHeartbeats 4000000 in
theorem c_124_0 : rd C_461 124 0 = 1 := by decide +kernel
set_option maxRecDepth 100000 in
set_option maxHeartbeats 4000000 in
theorem c_0_1 : rd C_461 0 1 = 0 := by decide +kernel
set_option maxRecDepth 100000 in
set_option maxHeartbeats 4000000 in
theorem c_120_1 : rd C_461 120 1 = 0 := by decide +kernel
set_option maxRecDepth 100000 in
set_option maxHeartbeats 4000000 in
theorem c_113_0 : rd C_461 113 0 = 0 := by decide +kernel
set_option maxRecDepth 100000 in
set_option maxHeartbeats 4000000 in
theorem c_120_113 : rd C_461 120 113 = 0 := by decide +kernel
set_option maxRecDepth 100000 in
set_option maxHeartbeats 4000000 in
theorem c_63_1 : rd C_461 63 1 = 64 := by decide +kernel
set_option maxRecDepth 100000 in
set_option maxHeartbeats 4000000 in
theorem c_63_0 : rd C_461 63 0 = 0 := by decide +kernel
set_option maxRecDepth 100000 in
set_option maxHeartbeats 4000000 in
theorem c_63_7 : rd C_461 63 7 = 0 := by decide +kernel
set_option maxRecDepth 100000 in
set_option maxHeartbeats 4000000 in
theorem tl_0 : Tl C_461 := by
  refine ⟨Or.inl c_63_1, ?_, ?_, fun j hj => ?_, ?_, fun j hj i i0 i1 => ?_⟩
  · rw [c_63_1]; exact n_461
  · rw [c_63_1]; decide +kernel
  · rw [c_63_1]
    exact of_decide_eq_true (List.all_eq_true.mp (show tJ.all (fun j => decide (rd C_461 63 j = tref 64 j ∧ mT C_461 (rd C_461 63 j) = (if j = 5 then 21 else 20, fN 64))) = true by decide +kernel) j hj)
  · rw [c_63_1, c_63_0, c_63_7]; decide
  · rw [c_63_1] at i1
    exact absurd i1 (by have e : fN 64 = 0 := rfl; rw [e]; omega)
theorem in_0 : In Tru C_461 := by
  refine ⟨⟨fun x _ => rfl, Nat.le_of_eq n_461.symm, fx_0⟩, ⟨iv_0, fun e he j => zb_461 e (List.mem_append_left _ he) j⟩, fun e he i => ?_, tl_0, trivial⟩
  have h : e.1 = 24 ∨ e.1 = 44 ∨ e.1 = 143 := by
    simp only [gcT, List.mem_cons, List.not_mem_nil, or_false] at he
    rcases he with rfl | rfl | rfl <;> decide
  have z : rd C_461 e.1 i = 0 := by rcases h with h | h | h <;> rw [h] <;> exact zr_0 (zm (by decide)) i
  unfold good
  rw [z]
  exact ⟨fun c => absurd c (by decide), fun c => absurd c (by decide)⟩
theorem bk_0 : Bk0 C_461 := by
  refine ⟨fun p p0 p1 => ?_, fun k k0 k1 => ?_, fun k k0 k1 => ?_, fun k k0 k1 => ?_, ?_, fun k k0 k1 => ?_⟩
  · rw [c_126_0] at p1; omega
  · rw [c_136_0] at k1; omega
  · rw [c_136_0] at k1; omega
  · rw [c_136_0] at k1; omega
  · rw [c_124_0, c_123_0]; decide
  · rw [c_136_0] at k1; omega
theorem li_0 : LI C_461 := ⟨in_0, ⟨Or.inl c_100_3, Or.inl ⟨c_0_4, c_0_5, fun k k0 k1 => by rw [c_15_0] at k1; omega, fun c => by rw [c_0_9] at c; cases c⟩⟩, ⟨c_120_59, Or.inl ⟨c_120_12, bk_0⟩⟩, c_0_1.trans c_120_1.symm, c_113_0.trans c_120_113.symm⟩
theorem in_rm {M : Mem} (h : In Tru M) : M.1 ≤ 600000 ∧ M.2.1 ≤ 7302250 := by
  obtain ⟨h1, h2, h3, -⟩ := h.2.2.2.1
  rw [h2, h3]
  rcases h1 with e | e | e | e | e | e | e <;> rw [e] <;> exact ⟨Nat.le_of_ble_eq_true rfl, Nat.le_of_ble_eq_true rfl⟩
