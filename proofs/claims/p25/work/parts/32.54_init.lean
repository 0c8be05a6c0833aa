/-! 54.init -/
section
/-! the memory behind the constructors -/
def ivZ : List (Int × Int × Int) := ivA ++ [(24, 0, 0), (25, 0, 0), (44, 0, 0), (45, 0, 0), (143, 0, 0), (144, 0, 0)]
def Zb (M : Mem) : Prop := ∀ e ∈ ivZ, ∀ j : Int, e.2.1 ≤ rd M e.1 j ∧ rd M e.1 j ≤ e.2.2
def zA (M : Mem) : Bool := true
theorem ivZ_0 : ∀ e ∈ ivZ, e.2.1 ≤ 0 ∧ 0 ≤ e.2.2 := fun e he => of_decide_eq_true (List.all_eq_true.mp (show ivZ.all (fun e => decide (e.2.1 ≤ 0 ∧ 0 ≤ e.2.2)) = true by decide +kernel) e he)
def zok (x v : Int) : Bool := ivZ.all (fun e => decide (e.1 ≠ x) || decide (e.2.1 ≤ v ∧ v ≤ e.2.2))
def zno (x : Int) : Bool := ivZ.all (fun e => decide (e.1 ≠ x))
theorem zok_s {x v : Int} (h : zok x v = true) {e : Int × Int × Int} (he : e ∈ ivZ) (hx : e.1 = x) : e.2.1 ≤ v ∧ v ≤ e.2.2 := by
  have h1 := List.all_eq_true.mp h e he
  rw [Bool.or_eq_true] at h1
  rcases h1 with h1 | h1
  · exact absurd hx (of_decide_eq_true h1)
  · exact of_decide_eq_true h1
theorem Zb.w {M : Mem} {x i v : Int} (h : Zb M) (hc : zok x v = true) : Zb (wr M x i v) := fun e he j => by
  rw [rd_wr]
  split
  · rename_i c
    exact zok_s hc he c.1
  · exact h e he j
theorem Zb.f {M : Mem} {x v : Int} {n : Nat} (h : Zb M) (hc : zok x v = true) : Zb (fil M x n v) := fun e he j => by
  rw [rd_fil]
  split
  · rename_i c
    exact zok_s hc he c.1
  · exact h e he j
theorem e_df0 {c : Nat} (h : 20 ≤ c) (j : Int) : e_df c j = 0 := by unfold e_df; rw [if_neg (by omega)]
theorem Zb.n {M : Mem} {t : Nat × Nat} (n : Nat) (h : Zb M) (hn : M.1 = n) (hc : (decide (20 ≤ t.1) || zno n) = true) : Zb (mnew M t) := fun e he j => by
  rw [rd_nw]
  split
  · rename_i c
    rw [Bool.or_eq_true] at hc
    rcases hc with hc | hc
    · rw [e_df0 (of_decide_eq_true hc)]
      exact ivZ_0 e he
    · exact absurd (by rw [c, hn]) (of_decide_eq_true (List.all_eq_true.mp hc e he))
  · exact h e he j
theorem n_wr {M : Mem} {x i v : Int} {n : Nat} (h : M.1 = n) : (wr M x i v).1 = n := h
theorem n_fl {M : Mem} {x v : Int} {k n : Nat} (h : M.1 = n) : (fil M x k v).1 = n := h
theorem n_nw {M : Mem} {t : Nat × Nat} {n n2 : Nat} (h : M.1 = n) (e : n + 1 = n2) : (mnew M t).1 = n2 := by rw [← e, ← h]; rfl
theorem n_0 : C_0.1 = 0 := rfl
theorem zb_0 : Zb C_0 := fun e he _ => ivZ_0 e he
theorem zb_1 : Zb C_1 := Zb.n (M := C_0) 0 zb_0 n_0 (by decide +kernel)
theorem n_1 : C_1.1 = 1 := n_nw (M := C_0) n_0 rfl
theorem zb_2 : Zb C_2 := Zb.n (M := C_1) 1 zb_1 n_1 (by decide +kernel)
theorem n_2 : C_2.1 = 2 := n_nw (M := C_1) n_1 rfl
theorem zb_3 : Zb C_3 := Zb.w (M := C_2) zb_2 (by decide +kernel)
theorem n_3 : C_3.1 = 2 := n_wr (M := C_2) n_2
theorem zb_4 : Zb C_4 := Zb.n (M := C_3) 2 zb_3 n_3 (by decide +kernel)
theorem n_4 : C_4.1 = 3 := n_nw (M := C_3) n_3 rfl
theorem zb_5 : Zb C_5 := Zb.n (M := C_4) 3 zb_4 n_4 (by decide +kernel)
theorem n_5 : C_5.1 = 4 := n_nw (M := C_4) n_4 rfl
theorem zb_6 : Zb C_6 := Zb.w (M := C_5) zb_5 (by decide +kernel)
theorem n_6 : C_6.1 = 4 := n_wr (M := C_5) n_5
theorem zb_7 : Zb C_7 := Zb.n (M := C_6) 4 zb_6 n_6 (by decide +kernel)
theorem n_7 : C_7.1 = 5 := n_nw (M := C_6) n_6 rfl
theorem zb_8 : Zb C_8 := Zb.w (M := C_7) zb_7 (by decide +kernel)
theorem n_8 : C_8.1 = 5 := n_wr (M := C_7) n_7
theorem zb_9 : Zb C_9 := Zb.n (M := C_8) 5 zb_8 n_8 (by decide +kernel)
theorem n_9 : C_9.1 = 6 := n_nw (M := C_8) n_8 rfl
theorem zb_10 : Zb C_10 := Zb.w (M := C_9) zb_9 (by decide +kernel)
theorem n_10 : C_10.1 = 6 := n_wr (M := C_9) n_9
theorem zb_11 : Zb C_11 := Zb.w (M := C_10) zb_10 (by decide +kernel)
theorem n_11 : C_11.1 = 6 := n_wr (M := C_10) n_10
theorem zb_12 : Zb C_12 := Zb.n (M := C_11) 6 zb_11 n_11 (by decide +kernel)
theorem n_12 : C_12.1 = 7 := n_nw (M := C_11) n_11 rfl
theorem zb_13 : Zb C_13 := Zb.w (M := C_12) zb_12 (by decide +kernel)
theorem n_13 : C_13.1 = 7 := n_wr (M := C_12) n_12
theorem zb_14 : Zb C_14 := Zb.w (M := C_13) zb_13 (by decide +kernel)
theorem n_14 : C_14.1 = 7 := n_wr (M := C_13) n_13
theorem zb_15 : Zb C_15 := Zb.w (M := C_14) zb_14 (by decide +kernel)
theorem n_15 : C_15.1 = 7 := n_wr (M := C_14) n_14
theorem zb_16 : Zb C_16 := Zb.n (M := C_15) 7 zb_15 n_15 (by decide +kernel)
theorem n_16 : C_16.1 = 8 := n_nw (M := C_15) n_15 rfl
theorem zb_17 : Zb C_17 := Zb.n (M := C_16) 8 zb_16 n_16 (by decide +kernel)
theorem n_17 : C_17.1 = 9 := n_nw (M := C_16) n_16 rfl
theorem zb_18 : Zb C_18 := Zb.w (M := C_17) zb_17 (by decide +kernel)
theorem n_18 : C_18.1 = 9 := n_wr (M := C_17) n_17
theorem zb_19 : Zb C_19 := Zb.n (M := C_18) 9 zb_18 n_18 (by decide +kernel)
theorem n_19 : C_19.1 = 10 := n_nw (M := C_18) n_18 rfl
theorem zb_20 : Zb C_20 := Zb.w (M := C_19) zb_19 (by decide +kernel)
theorem n_20 : C_20.1 = 10 := n_wr (M := C_19) n_19
theorem zb_21 : Zb C_21 := Zb.n (M := C_20) 10 zb_20 n_20 (by decide +kernel)
theorem n_21 : C_21.1 = 11 := n_nw (M := C_20) n_20 rfl
theorem zb_22 : Zb C_22 := Zb.w (M := C_21) zb_21 (by decide +kernel)
theorem n_22 : C_22.1 = 11 := n_wr (M := C_21) n_21
theorem zb_23 : Zb C_23 := Zb.n (M := C_22) 11 zb_22 n_22 (by decide +kernel)
theorem n_23 : C_23.1 = 12 := n_nw (M := C_22) n_22 rfl
theorem zb_24 : Zb C_24 := Zb.w (M := C_23) zb_23 (by decide +kernel)
theorem n_24 : C_24.1 = 12 := n_wr (M := C_23) n_23
theorem zb_25 : Zb C_25 := Zb.n (M := C_24) 12 zb_24 n_24 (by decide +kernel)
theorem n_25 : C_25.1 = 13 := n_nw (M := C_24) n_24 rfl
theorem zb_26 : Zb C_26 := Zb.w (M := C_25) zb_25 (by decide +kernel)
theorem n_26 : C_26.1 = 13 := n_wr (M := C_25) n_25
theorem zb_27 : Zb C_27 := Zb.n (M := C_26) 13 zb_26 n_26 (by decide +kernel)
theorem n_27 : C_27.1 = 14 := n_nw (M := C_26) n_26 rfl
theorem zb_28 : Zb C_28 := Zb.w (M := C_27) zb_27 (by decide +kernel)
theorem n_28 : C_28.1 = 14 := n_wr (M := C_27) n_27
theorem zb_29 : Zb C_29 := Zb.n (M := C_28) 14 zb_28 n_28 (by decide +kernel)
theorem n_29 : C_29.1 = 15 := n_nw (M := C_28) n_28 rfl
theorem zb_30 : Zb C_30 := Zb.w (M := C_29) zb_29 (by decide +kernel)
theorem n_30 : C_30.1 = 15 := n_wr (M := C_29) n_29
theorem zb_31 : Zb C_31 := Zb.n (M := C_30) 15 zb_30 n_30 (by decide +kernel)
theorem n_31 : C_31.1 = 16 := n_nw (M := C_30) n_30 rfl
theorem zb_32 : Zb C_32 := Zb.n (M := C_31) 16 zb_31 n_31 (by decide +kernel)
theorem n_32 : C_32.1 = 17 := n_nw (M := C_31) n_31 rfl
theorem zb_33 : Zb C_33 := Zb.w (M := C_32) zb_32 (by decide +kernel)
theorem n_33 : C_33.1 = 17 := n_wr (M := C_32) n_32
theorem zb_34 : Zb C_34 := Zb.n (M := C_33) 17 zb_33 n_33 (by decide +kernel)
theorem n_34 : C_34.1 = 18 := n_nw (M := C_33) n_33 rfl
theorem zb_35 : Zb C_35 := Zb.w (M := C_34) zb_34 (by decide +kernel)
theorem n_35 : C_35.1 = 18 := n_wr (M := C_34) n_34
theorem zb_36 : Zb C_36 := Zb.n (M := C_35) 18 zb_35 n_35 (by decide +kernel)
theorem n_36 : C_36.1 = 19 := n_nw (M := C_35) n_35 rfl
theorem zb_37 : Zb C_37 := Zb.w (M := C_36) zb_36 (by decide +kernel)
theorem n_37 : C_37.1 = 19 := n_wr (M := C_36) n_36
theorem zb_38 : Zb C_38 := Zb.n (M := C_37) 19 zb_37 n_37 (by decide +kernel)
theorem n_38 : C_38.1 = 20 := n_nw (M := C_37) n_37 rfl
theorem zb_39 : Zb C_39 := Zb.w (M := C_38) zb_38 (by decide +kernel)
theorem n_39 : C_39.1 = 20 := n_wr (M := C_38) n_38
theorem zb_40 : Zb C_40 := Zb.n (M := C_39) 20 zb_39 n_39 (by decide +kernel)
theorem n_40 : C_40.1 = 21 := n_nw (M := C_39) n_39 rfl
theorem zb_41 : Zb C_41 := Zb.w (M := C_40) zb_40 (by decide +kernel)
theorem n_41 : C_41.1 = 21 := n_wr (M := C_40) n_40
theorem zb_42 : Zb C_42 := Zb.n (M := C_41) 21 zb_41 n_41 (by decide +kernel)
theorem n_42 : C_42.1 = 22 := n_nw (M := C_41) n_41 rfl
theorem zb_43 : Zb C_43 := Zb.w (M := C_42) zb_42 (by decide +kernel)
theorem n_43 : C_43.1 = 22 := n_wr (M := C_42) n_42
theorem zb_44 : Zb C_44 := Zb.n (M := C_43) 22 zb_43 n_43 (by decide +kernel)
theorem n_44 : C_44.1 = 23 := n_nw (M := C_43) n_43 rfl
theorem zb_45 : Zb C_45 := Zb.w (M := C_44) zb_44 (by decide +kernel)
theorem n_45 : C_45.1 = 23 := n_wr (M := C_44) n_44
theorem zb_46 : Zb C_46 := Zb.n (M := C_45) 23 zb_45 n_45 (by decide +kernel)
theorem n_46 : C_46.1 = 24 := n_nw (M := C_45) n_45 rfl
theorem zb_47 : Zb C_47 := Zb.w (M := C_46) zb_46 (by decide +kernel)
theorem n_47 : C_47.1 = 24 := n_wr (M := C_46) n_46
theorem zb_48 : Zb C_48 := Zb.n (M := C_47) 24 zb_47 n_47 (by decide +kernel)
theorem n_48 : C_48.1 = 25 := n_nw (M := C_47) n_47 rfl
theorem zb_49 : Zb C_49 := Zb.w (M := C_48) zb_48 (by decide +kernel)
theorem n_49 : C_49.1 = 25 := n_wr (M := C_48) n_48
theorem zb_50 : Zb C_50 := Zb.n (M := C_49) 25 zb_49 n_49 (by decide +kernel)
theorem n_50 : C_50.1 = 26 := n_nw (M := C_49) n_49 rfl
theorem zb_51 : Zb C_51 := Zb.w (M := C_50) zb_50 (by decide +kernel)
theorem n_51 : C_51.1 = 26 := n_wr (M := C_50) n_50
theorem zb_52 : Zb C_52 := Zb.n (M := C_51) 26 zb_51 n_51 (by decide +kernel)
theorem n_52 : C_52.1 = 27 := n_nw (M := C_51) n_51 rfl
theorem zb_53 : Zb C_53 := Zb.w (M := C_52) zb_52 (by decide +kernel)
theorem n_53 : C_53.1 = 27 := n_wr (M := C_52) n_52
theorem zb_54 : Zb C_54 := Zb.w (M := C_53) zb_53 (by decide +kernel)
theorem n_54 : C_54.1 = 27 := n_wr (M := C_53) n_53
theorem zb_55 : Zb C_55 := Zb.w (M := C_54) zb_54 (by decide +kernel)
theorem n_55 : C_55.1 = 27 := n_wr (M := C_54) n_54
theorem zb_56 : Zb C_56 := Zb.n (M := C_55) 27 zb_55 n_55 (by decide +kernel)
theorem n_56 : C_56.1 = 28 := n_nw (M := C_55) n_55 rfl
theorem zb_57 : Zb C_57 := Zb.n (M := C_56) 28 zb_56 n_56 (by decide +kernel)
theorem n_57 : C_57.1 = 29 := n_nw (M := C_56) n_56 rfl
theorem zb_58 : Zb C_58 := Zb.w (M := C_57) zb_57 (by decide +kernel)
theorem n_58 : C_58.1 = 29 := n_wr (M := C_57) n_57
theorem zb_59 : Zb C_59 := Zb.n (M := C_58) 29 zb_58 n_58 (by decide +kernel)
theorem n_59 : C_59.1 = 30 := n_nw (M := C_58) n_58 rfl
theorem zb_60 : Zb C_60 := Zb.w (M := C_59) zb_59 (by decide +kernel)
theorem n_60 : C_60.1 = 30 := n_wr (M := C_59) n_59
theorem zb_61 : Zb C_61 := Zb.n (M := C_60) 30 zb_60 n_60 (by decide +kernel)
theorem n_61 : C_61.1 = 31 := n_nw (M := C_60) n_60 rfl
theorem zb_62 : Zb C_62 := Zb.w (M := C_61) zb_61 (by decide +kernel)
theorem n_62 : C_62.1 = 31 := n_wr (M := C_61) n_61
theorem zb_63 : Zb C_63 := Zb.n (M := C_62) 31 zb_62 n_62 (by decide +kernel)
theorem n_63 : C_63.1 = 32 := n_nw (M := C_62) n_62 rfl
theorem zb_64 : Zb C_64 := Zb.w (M := C_63) zb_63 (by decide +kernel)
theorem n_64 : C_64.1 = 32 := n_wr (M := C_63) n_63
theorem zb_65 : Zb C_65 := Zb.n (M := C_64) 32 zb_64 n_64 (by decide +kernel)
theorem n_65 : C_65.1 = 33 := n_nw (M := C_64) n_64 rfl
theorem zb_66 : Zb C_66 := Zb.w (M := C_65) zb_65 (by decide +kernel)
theorem n_66 : C_66.1 = 33 := n_wr (M := C_65) n_65
theorem zb_67 : Zb C_67 := Zb.n (M := C_66) 33 zb_66 n_66 (by decide +kernel)
theorem n_67 : C_67.1 = 34 := n_nw (M := C_66) n_66 rfl
theorem zb_68 : Zb C_68 := Zb.w (M := C_67) zb_67 (by decide +kernel)
theorem n_68 : C_68.1 = 34 := n_wr (M := C_67) n_67
theorem zb_69 : Zb C_69 := Zb.n (M := C_68) 34 zb_68 n_68 (by decide +kernel)
theorem n_69 : C_69.1 = 35 := n_nw (M := C_68) n_68 rfl
theorem zb_70 : Zb C_70 := Zb.w (M := C_69) zb_69 (by decide +kernel)
theorem n_70 : C_70.1 = 35 := n_wr (M := C_69) n_69
theorem zb_71 : Zb C_71 := Zb.n (M := C_70) 35 zb_70 n_70 (by decide +kernel)
theorem n_71 : C_71.1 = 36 := n_nw (M := C_70) n_70 rfl
theorem zb_72 : Zb C_72 := Zb.n (M := C_71) 36 zb_71 n_71 (by decide +kernel)
theorem n_72 : C_72.1 = 37 := n_nw (M := C_71) n_71 rfl
theorem zb_73 : Zb C_73 := Zb.w (M := C_72) zb_72 (by decide +kernel)
theorem n_73 : C_73.1 = 37 := n_wr (M := C_72) n_72
theorem zb_74 : Zb C_74 := Zb.n (M := C_73) 37 zb_73 n_73 (by decide +kernel)
theorem n_74 : C_74.1 = 38 := n_nw (M := C_73) n_73 rfl
theorem zb_75 : Zb C_75 := Zb.w (M := C_74) zb_74 (by decide +kernel)
theorem n_75 : C_75.1 = 38 := n_wr (M := C_74) n_74
theorem zb_76 : Zb C_76 := Zb.n (M := C_75) 38 zb_75 n_75 (by decide +kernel)
theorem n_76 : C_76.1 = 39 := n_nw (M := C_75) n_75 rfl
theorem zb_77 : Zb C_77 := Zb.w (M := C_76) zb_76 (by decide +kernel)
theorem n_77 : C_77.1 = 39 := n_wr (M := C_76) n_76
theorem zb_78 : Zb C_78 := Zb.n (M := C_77) 39 zb_77 n_77 (by decide +kernel)
theorem n_78 : C_78.1 = 40 := n_nw (M := C_77) n_77 rfl
theorem zb_79 : Zb C_79 := Zb.w (M := C_78) zb_78 (by decide +kernel)
theorem n_79 : C_79.1 = 40 := n_wr (M := C_78) n_78
theorem zb_80 : Zb C_80 := Zb.n (M := C_79) 40 zb_79 n_79 (by decide +kernel)
theorem n_80 : C_80.1 = 41 := n_nw (M := C_79) n_79 rfl
theorem zb_81 : Zb C_81 := Zb.w (M := C_80) zb_80 (by decide +kernel)
theorem n_81 : C_81.1 = 41 := n_wr (M := C_80) n_80
theorem zb_82 : Zb C_82 := Zb.n (M := C_81) 41 zb_81 n_81 (by decide +kernel)
theorem n_82 : C_82.1 = 42 := n_nw (M := C_81) n_81 rfl
theorem zb_83 : Zb C_83 := Zb.w (M := C_82) zb_82 (by decide +kernel)
theorem n_83 : C_83.1 = 42 := n_wr (M := C_82) n_82
theorem zb_84 : Zb C_84 := Zb.n (M := C_83) 42 zb_83 n_83 (by decide +kernel)
theorem n_84 : C_84.1 = 43 := n_nw (M := C_83) n_83 rfl
theorem zb_85 : Zb C_85 := Zb.w (M := C_84) zb_84 (by decide +kernel)
theorem n_85 : C_85.1 = 43 := n_wr (M := C_84) n_84
theorem zb_86 : Zb C_86 := Zb.n (M := C_85) 43 zb_85 n_85 (by decide +kernel)
theorem n_86 : C_86.1 = 44 := n_nw (M := C_85) n_85 rfl
theorem zb_87 : Zb C_87 := Zb.w (M := C_86) zb_86 (by decide +kernel)
theorem n_87 : C_87.1 = 44 := n_wr (M := C_86) n_86
theorem zb_88 : Zb C_88 := Zb.n (M := C_87) 44 zb_87 n_87 (by decide +kernel)
theorem n_88 : C_88.1 = 45 := n_nw (M := C_87) n_87 rfl
theorem zb_89 : Zb C_89 := Zb.w (M := C_88) zb_88 (by decide +kernel)
theorem n_89 : C_89.1 = 45 := n_wr (M := C_88) n_88
theorem zb_90 : Zb C_90 := Zb.n (M := C_89) 45 zb_89 n_89 (by decide +kernel)
theorem n_90 : C_90.1 = 46 := n_nw (M := C_89) n_89 rfl
theorem zb_91 : Zb C_91 := Zb.w (M := C_90) zb_90 (by decide +kernel)
theorem n_91 : C_91.1 = 46 := n_wr (M := C_90) n_90
theorem zb_92 : Zb C_92 := Zb.n (M := C_91) 46 zb_91 n_91 (by decide +kernel)
theorem n_92 : C_92.1 = 47 := n_nw (M := C_91) n_91 rfl
theorem zb_93 : Zb C_93 := Zb.w (M := C_92) zb_92 (by decide +kernel)
theorem n_93 : C_93.1 = 47 := n_wr (M := C_92) n_92
theorem zb_94 : Zb C_94 := Zb.w (M := C_93) zb_93 (by decide +kernel)
theorem n_94 : C_94.1 = 47 := n_wr (M := C_93) n_93
theorem zb_95 : Zb C_95 := Zb.w (M := C_94) zb_94 (by decide +kernel)
theorem n_95 : C_95.1 = 47 := n_wr (M := C_94) n_94
theorem zb_96 : Zb C_96 := Zb.n (M := C_95) 47 zb_95 n_95 (by decide +kernel)
theorem n_96 : C_96.1 = 48 := n_nw (M := C_95) n_95 rfl
theorem zb_97 : Zb C_97 := Zb.w (M := C_96) zb_96 (by decide +kernel)
theorem n_97 : C_97.1 = 48 := n_wr (M := C_96) n_96
theorem zb_98 : Zb C_98 := Zb.n (M := C_97) 48 zb_97 n_97 (by decide +kernel)
theorem n_98 : C_98.1 = 49 := n_nw (M := C_97) n_97 rfl
theorem zb_99 : Zb C_99 := Zb.n (M := C_98) 49 zb_98 n_98 (by decide +kernel)
theorem n_99 : C_99.1 = 50 := n_nw (M := C_98) n_98 rfl
theorem zb_100 : Zb C_100 := Zb.w (M := C_99) zb_99 (by decide +kernel)
theorem n_100 : C_100.1 = 50 := n_wr (M := C_99) n_99
theorem zb_101 : Zb C_101 := Zb.n (M := C_100) 50 zb_100 n_100 (by decide +kernel)
theorem n_101 : C_101.1 = 51 := n_nw (M := C_100) n_100 rfl
theorem zb_102 : Zb C_102 := Zb.w (M := C_101) zb_101 (by decide +kernel)
theorem n_102 : C_102.1 = 51 := n_wr (M := C_101) n_101
theorem zb_103 : Zb C_103 := Zb.n (M := C_102) 51 zb_102 n_102 (by decide +kernel)
theorem n_103 : C_103.1 = 52 := n_nw (M := C_102) n_102 rfl
theorem zb_104 : Zb C_104 := Zb.w (M := C_103) zb_103 (by decide +kernel)
theorem n_104 : C_104.1 = 52 := n_wr (M := C_103) n_103
theorem zb_105 : Zb C_105 := Zb.n (M := C_104) 52 zb_104 n_104 (by decide +kernel)
theorem n_105 : C_105.1 = 53 := n_nw (M := C_104) n_104 rfl
theorem zb_106 : Zb C_106 := Zb.w (M := C_105) zb_105 (by decide +kernel)
theorem n_106 : C_106.1 = 53 := n_wr (M := C_105) n_105
theorem zb_107 : Zb C_107 := Zb.n (M := C_106) 53 zb_106 n_106 (by decide +kernel)
theorem n_107 : C_107.1 = 54 := n_nw (M := C_106) n_106 rfl
theorem zb_108 : Zb C_108 := Zb.w (M := C_107) zb_107 (by decide +kernel)
theorem n_108 : C_108.1 = 54 := n_wr (M := C_107) n_107
theorem zb_109 : Zb C_109 := Zb.n (M := C_108) 54 zb_108 n_108 (by decide +kernel)
theorem n_109 : C_109.1 = 55 := n_nw (M := C_108) n_108 rfl
theorem zb_110 : Zb C_110 := Zb.w (M := C_109) zb_109 (by decide +kernel)
theorem n_110 : C_110.1 = 55 := n_wr (M := C_109) n_109
theorem zb_111 : Zb C_111 := Zb.n (M := C_110) 55 zb_110 n_110 (by decide +kernel)
theorem n_111 : C_111.1 = 56 := n_nw (M := C_110) n_110 rfl
theorem zb_112 : Zb C_112 := Zb.w (M := C_111) zb_111 (by decide +kernel)
theorem n_112 : C_112.1 = 56 := n_wr (M := C_111) n_111
theorem zb_113 : Zb C_113 := Zb.n (M := C_112) 56 zb_112 n_112 (by decide +kernel)
theorem n_113 : C_113.1 = 57 := n_nw (M := C_112) n_112 rfl
theorem zb_114 : Zb C_114 := Zb.n (M := C_113) 57 zb_113 n_113 (by decide +kernel)
theorem n_114 : C_114.1 = 58 := n_nw (M := C_113) n_113 rfl
theorem zb_115 : Zb C_115 := Zb.w (M := C_114) zb_114 (by decide +kernel)
theorem n_115 : C_115.1 = 58 := n_wr (M := C_114) n_114
theorem zb_116 : Zb C_116 := Zb.n (M := C_115) 58 zb_115 n_115 (by decide +kernel)
theorem n_116 : C_116.1 = 59 := n_nw (M := C_115) n_115 rfl
theorem zb_117 : Zb C_117 := Zb.w (M := C_116) zb_116 (by decide +kernel)
theorem n_117 : C_117.1 = 59 := n_wr (M := C_116) n_116
theorem zb_118 : Zb C_118 := Zb.n (M := C_117) 59 zb_117 n_117 (by decide +kernel)
theorem n_118 : C_118.1 = 60 := n_nw (M := C_117) n_117 rfl
theorem zb_119 : Zb C_119 := Zb.w (M := C_118) zb_118 (by decide +kernel)
theorem n_119 : C_119.1 = 60 := n_wr (M := C_118) n_118
theorem zb_120 : Zb C_120 := Zb.n (M := C_119) 60 zb_119 n_119 (by decide +kernel)
theorem n_120 : C_120.1 = 61 := n_nw (M := C_119) n_119 rfl
theorem zb_121 : Zb C_121 := Zb.w (M := C_120) zb_120 (by decide +kernel)
theorem n_121 : C_121.1 = 61 := n_wr (M := C_120) n_120
theorem zb_122 : Zb C_122 := Zb.n (M := C_121) 61 zb_121 n_121 (by decide +kernel)
theorem n_122 : C_122.1 = 62 := n_nw (M := C_121) n_121 rfl
theorem zb_123 : Zb C_123 := Zb.w (M := C_122) zb_122 (by decide +kernel)
theorem n_123 : C_123.1 = 62 := n_wr (M := C_122) n_122
theorem zb_124 : Zb C_124 := Zb.n (M := C_123) 62 zb_123 n_123 (by decide +kernel)
theorem n_124 : C_124.1 = 63 := n_nw (M := C_123) n_123 rfl
theorem zb_125 : Zb C_125 := Zb.w (M := C_124) zb_124 (by decide +kernel)
theorem n_125 : C_125.1 = 63 := n_wr (M := C_124) n_124
theorem zb_126 : Zb C_126 := Zb.n (M := C_125) 63 zb_125 n_125 (by decide +kernel)
theorem n_126 : C_126.1 = 64 := n_nw (M := C_125) n_125 rfl
theorem zb_127 : Zb C_127 := Zb.n (M := C_126) 64 zb_126 n_126 (by decide +kernel)
theorem n_127 : C_127.1 = 65 := n_nw (M := C_126) n_126 rfl
theorem zb_128 : Zb C_128 := Zb.w (M := C_127) zb_127 (by decide +kernel)
theorem n_128 : C_128.1 = 65 := n_wr (M := C_127) n_127
theorem zb_129 : Zb C_129 := Zb.n (M := C_128) 65 zb_128 n_128 (by decide +kernel)
theorem n_129 : C_129.1 = 66 := n_nw (M := C_128) n_128 rfl
theorem zb_130 : Zb C_130 := Zb.w (M := C_129) zb_129 (by decide +kernel)
theorem n_130 : C_130.1 = 66 := n_wr (M := C_129) n_129
theorem zb_131 : Zb C_131 := Zb.n (M := C_130) 66 zb_130 n_130 (by decide +kernel)
theorem n_131 : C_131.1 = 67 := n_nw (M := C_130) n_130 rfl
theorem zb_132 : Zb C_132 := Zb.w (M := C_131) zb_131 (by decide +kernel)
theorem n_132 : C_132.1 = 67 := n_wr (M := C_131) n_131
theorem zb_133 : Zb C_133 := Zb.n (M := C_132) 67 zb_132 n_132 (by decide +kernel)
theorem n_133 : C_133.1 = 68 := n_nw (M := C_132) n_132 rfl
theorem zb_134 : Zb C_134 := Zb.w (M := C_133) zb_133 (by decide +kernel)
theorem n_134 : C_134.1 = 68 := n_wr (M := C_133) n_133
theorem zb_135 : Zb C_135 := Zb.n (M := C_134) 68 zb_134 n_134 (by decide +kernel)
theorem n_135 : C_135.1 = 69 := n_nw (M := C_134) n_134 rfl
theorem zb_136 : Zb C_136 := Zb.w (M := C_135) zb_135 (by decide +kernel)
theorem n_136 : C_136.1 = 69 := n_wr (M := C_135) n_135
theorem zb_137 : Zb C_137 := Zb.n (M := C_136) 69 zb_136 n_136 (by decide +kernel)
theorem n_137 : C_137.1 = 70 := n_nw (M := C_136) n_136 rfl
theorem zb_138 : Zb C_138 := Zb.w (M := C_137) zb_137 (by decide +kernel)
theorem n_138 : C_138.1 = 70 := n_wr (M := C_137) n_137
theorem zb_139 : Zb C_139 := Zb.n (M := C_138) 70 zb_138 n_138 (by decide +kernel)
theorem n_139 : C_139.1 = 71 := n_nw (M := C_138) n_138 rfl
theorem zb_140 : Zb C_140 := Zb.w (M := C_139) zb_139 (by decide +kernel)
theorem n_140 : C_140.1 = 71 := n_wr (M := C_139) n_139
theorem zb_141 : Zb C_141 := Zb.n (M := C_140) 71 zb_140 n_140 (by decide +kernel)
theorem n_141 : C_141.1 = 72 := n_nw (M := C_140) n_140 rfl
theorem zb_142 : Zb C_142 := Zb.w (M := C_141) zb_141 (by decide +kernel)
theorem n_142 : C_142.1 = 72 := n_wr (M := C_141) n_141
theorem zb_143 : Zb C_143 := Zb.n (M := C_142) 72 zb_142 n_142 (by decide +kernel)
theorem n_143 : C_143.1 = 73 := n_nw (M := C_142) n_142 rfl
theorem zb_144 : Zb C_144 := Zb.w (M := C_143) zb_143 (by decide +kernel)
theorem n_144 : C_144.1 = 73 := n_wr (M := C_143) n_143
theorem zb_145 : Zb C_145 := Zb.n (M := C_144) 73 zb_144 n_144 (by decide +kernel)
theorem n_145 : C_145.1 = 74 := n_nw (M := C_144) n_144 rfl
theorem zb_146 : Zb C_146 := Zb.w (M := C_145) zb_145 (by decide +kernel)
theorem n_146 : C_146.1 = 74 := n_wr (M := C_145) n_145
theorem zb_147 : Zb C_147 := Zb.w (M := C_146) zb_146 (by decide +kernel)
theorem n_147 : C_147.1 = 74 := n_wr (M := C_146) n_146
theorem zb_148 : Zb C_148 := Zb.w (M := C_147) zb_147 (by decide +kernel)
theorem n_148 : C_148.1 = 74 := n_wr (M := C_147) n_147
theorem zb_149 : Zb C_149 := Zb.w (M := C_148) zb_148 (by decide +kernel)
theorem n_149 : C_149.1 = 74 := n_wr (M := C_148) n_148
theorem zb_150 : Zb C_150 := Zb.w (M := C_149) zb_149 (by decide +kernel)
theorem n_150 : C_150.1 = 74 := n_wr (M := C_149) n_149
theorem zb_151 : Zb C_151 := Zb.n (M := C_150) 74 zb_150 n_150 (by decide +kernel)
theorem n_151 : C_151.1 = 75 := n_nw (M := C_150) n_150 rfl
theorem zb_152 : Zb C_152 := Zb.n (M := C_151) 75 zb_151 n_151 (by decide +kernel)
theorem n_152 : C_152.1 = 76 := n_nw (M := C_151) n_151 rfl
theorem zb_153 : Zb C_153 := Zb.w (M := C_152) zb_152 (by decide +kernel)
theorem n_153 : C_153.1 = 76 := n_wr (M := C_152) n_152
theorem zb_154 : Zb C_154 := Zb.n (M := C_153) 76 zb_153 n_153 (by decide +kernel)
theorem n_154 : C_154.1 = 77 := n_nw (M := C_153) n_153 rfl
theorem zb_155 : Zb C_155 := Zb.w (M := C_154) zb_154 (by decide +kernel)
theorem n_155 : C_155.1 = 77 := n_wr (M := C_154) n_154
theorem zb_156 : Zb C_156 := Zb.n (M := C_155) 77 zb_155 n_155 (by decide +kernel)
theorem n_156 : C_156.1 = 78 := n_nw (M := C_155) n_155 rfl
theorem zb_157 : Zb C_157 := Zb.w (M := C_156) zb_156 (by decide +kernel)
theorem n_157 : C_157.1 = 78 := n_wr (M := C_156) n_156
theorem zb_158 : Zb C_158 := Zb.n (M := C_157) 78 zb_157 n_157 (by decide +kernel)
theorem n_158 : C_158.1 = 79 := n_nw (M := C_157) n_157 rfl
theorem zb_159 : Zb C_159 := Zb.w (M := C_158) zb_158 (by decide +kernel)
theorem n_159 : C_159.1 = 79 := n_wr (M := C_158) n_158
theorem zb_160 : Zb C_160 := Zb.n (M := C_159) 79 zb_159 n_159 (by decide +kernel)
theorem n_160 : C_160.1 = 80 := n_nw (M := C_159) n_159 rfl
theorem zb_161 : Zb C_161 := Zb.w (M := C_160) zb_160 (by decide +kernel)
theorem n_161 : C_161.1 = 80 := n_wr (M := C_160) n_160
theorem zb_162 : Zb C_162 := Zb.n (M := C_161) 80 zb_161 n_161 (by decide +kernel)
theorem n_162 : C_162.1 = 81 := n_nw (M := C_161) n_161 rfl
theorem zb_163 : Zb C_163 := Zb.w (M := C_162) zb_162 (by decide +kernel)
theorem n_163 : C_163.1 = 81 := n_wr (M := C_162) n_162
theorem zb_164 : Zb C_164 := Zb.n (M := C_163) 81 zb_163 n_163 (by decide +kernel)
theorem n_164 : C_164.1 = 82 := n_nw (M := C_163) n_163 rfl
theorem zb_165 : Zb C_165 := Zb.w (M := C_164) zb_164 (by decide +kernel)
theorem n_165 : C_165.1 = 82 := n_wr (M := C_164) n_164
theorem zb_166 : Zb C_166 := Zb.n (M := C_165) 82 zb_165 n_165 (by decide +kernel)
theorem n_166 : C_166.1 = 83 := n_nw (M := C_165) n_165 rfl
theorem zb_167 : Zb C_167 := Zb.n (M := C_166) 83 zb_166 n_166 (by decide +kernel)
theorem n_167 : C_167.1 = 84 := n_nw (M := C_166) n_166 rfl
theorem zb_168 : Zb C_168 := Zb.w (M := C_167) zb_167 (by decide +kernel)
theorem n_168 : C_168.1 = 84 := n_wr (M := C_167) n_167
theorem zb_169 : Zb C_169 := Zb.n (M := C_168) 84 zb_168 n_168 (by decide +kernel)
theorem n_169 : C_169.1 = 85 := n_nw (M := C_168) n_168 rfl
theorem zb_170 : Zb C_170 := Zb.w (M := C_169) zb_169 (by decide +kernel)
theorem n_170 : C_170.1 = 85 := n_wr (M := C_169) n_169
theorem zb_171 : Zb C_171 := Zb.n (M := C_170) 85 zb_170 n_170 (by decide +kernel)
theorem n_171 : C_171.1 = 86 := n_nw (M := C_170) n_170 rfl
theorem zb_172 : Zb C_172 := Zb.w (M := C_171) zb_171 (by decide +kernel)
theorem n_172 : C_172.1 = 86 := n_wr (M := C_171) n_171
theorem zb_173 : Zb C_173 := Zb.n (M := C_172) 86 zb_172 n_172 (by decide +kernel)
theorem n_173 : C_173.1 = 87 := n_nw (M := C_172) n_172 rfl
theorem zb_174 : Zb C_174 := Zb.w (M := C_173) zb_173 (by decide +kernel)
theorem n_174 : C_174.1 = 87 := n_wr (M := C_173) n_173
theorem zb_175 : Zb C_175 := Zb.n (M := C_174) 87 zb_174 n_174 (by decide +kernel)
theorem n_175 : C_175.1 = 88 := n_nw (M := C_174) n_174 rfl
theorem zb_176 : Zb C_176 := Zb.w (M := C_175) zb_175 (by decide +kernel)
theorem n_176 : C_176.1 = 88 := n_wr (M := C_175) n_175
theorem zb_177 : Zb C_177 := Zb.n (M := C_176) 88 zb_176 n_176 (by decide +kernel)
theorem n_177 : C_177.1 = 89 := n_nw (M := C_176) n_176 rfl
theorem zb_178 : Zb C_178 := Zb.w (M := C_177) zb_177 (by decide +kernel)
theorem n_178 : C_178.1 = 89 := n_wr (M := C_177) n_177
theorem zb_179 : Zb C_179 := Zb.n (M := C_178) 89 zb_178 n_178 (by decide +kernel)
theorem n_179 : C_179.1 = 90 := n_nw (M := C_178) n_178 rfl
theorem zb_180 : Zb C_180 := Zb.n (M := C_179) 90 zb_179 n_179 (by decide +kernel)
theorem n_180 : C_180.1 = 91 := n_nw (M := C_179) n_179 rfl
theorem zb_181 : Zb C_181 := Zb.w (M := C_180) zb_180 (by decide +kernel)
theorem n_181 : C_181.1 = 91 := n_wr (M := C_180) n_180
theorem zb_182 : Zb C_182 := Zb.n (M := C_181) 91 zb_181 n_181 (by decide +kernel)
theorem n_182 : C_182.1 = 92 := n_nw (M := C_181) n_181 rfl
theorem zb_183 : Zb C_183 := Zb.w (M := C_182) zb_182 (by decide +kernel)
theorem n_183 : C_183.1 = 92 := n_wr (M := C_182) n_182
theorem zb_184 : Zb C_184 := Zb.n (M := C_183) 92 zb_183 n_183 (by decide +kernel)
theorem n_184 : C_184.1 = 93 := n_nw (M := C_183) n_183 rfl
theorem zb_185 : Zb C_185 := Zb.w (M := C_184) zb_184 (by decide +kernel)
theorem n_185 : C_185.1 = 93 := n_wr (M := C_184) n_184
theorem zb_186 : Zb C_186 := Zb.n (M := C_185) 93 zb_185 n_185 (by decide +kernel)
theorem n_186 : C_186.1 = 94 := n_nw (M := C_185) n_185 rfl
theorem zb_187 : Zb C_187 := Zb.w (M := C_186) zb_186 (by decide +kernel)
theorem n_187 : C_187.1 = 94 := n_wr (M := C_186) n_186
theorem zb_188 : Zb C_188 := Zb.n (M := C_187) 94 zb_187 n_187 (by decide +kernel)
theorem n_188 : C_188.1 = 95 := n_nw (M := C_187) n_187 rfl
theorem zb_189 : Zb C_189 := Zb.w (M := C_188) zb_188 (by decide +kernel)
theorem n_189 : C_189.1 = 95 := n_wr (M := C_188) n_188
theorem zb_190 : Zb C_190 := Zb.n (M := C_189) 95 zb_189 n_189 (by decide +kernel)
theorem n_190 : C_190.1 = 96 := n_nw (M := C_189) n_189 rfl
theorem zb_191 : Zb C_191 := Zb.w (M := C_190) zb_190 (by decide +kernel)
theorem n_191 : C_191.1 = 96 := n_wr (M := C_190) n_190
theorem zb_192 : Zb C_192 := Zb.n (M := C_191) 96 zb_191 n_191 (by decide +kernel)
theorem n_192 : C_192.1 = 97 := n_nw (M := C_191) n_191 rfl
theorem zb_193 : Zb C_193 := Zb.w (M := C_192) zb_192 (by decide +kernel)
theorem n_193 : C_193.1 = 97 := n_wr (M := C_192) n_192
theorem zb_194 : Zb C_194 := Zb.n (M := C_193) 97 zb_193 n_193 (by decide +kernel)
theorem n_194 : C_194.1 = 98 := n_nw (M := C_193) n_193 rfl
theorem zb_195 : Zb C_195 := Zb.w (M := C_194) zb_194 (by decide +kernel)
theorem n_195 : C_195.1 = 98 := n_wr (M := C_194) n_194
theorem zb_196 : Zb C_196 := Zb.n (M := C_195) 98 zb_195 n_195 (by decide +kernel)
theorem n_196 : C_196.1 = 99 := n_nw (M := C_195) n_195 rfl
theorem zb_197 : Zb C_197 := Zb.w (M := C_196) zb_196 (by decide +kernel)
theorem n_197 : C_197.1 = 99 := n_wr (M := C_196) n_196
theorem zb_198 : Zb C_198 := Zb.n (M := C_197) 99 zb_197 n_197 (by decide +kernel)
theorem n_198 : C_198.1 = 100 := n_nw (M := C_197) n_197 rfl
theorem zb_199 : Zb C_199 := Zb.w (M := C_198) zb_198 (by decide +kernel)
theorem n_199 : C_199.1 = 100 := n_wr (M := C_198) n_198
theorem zb_200 : Zb C_200 := Zb.w (M := C_199) zb_199 (by decide +kernel)
theorem n_200 : C_200.1 = 100 := n_wr (M := C_199) n_199
theorem zb_201 : Zb C_201 := Zb.w (M := C_200) zb_200 (by decide +kernel)
theorem n_201 : C_201.1 = 100 := n_wr (M := C_200) n_200
theorem zb_202 : Zb C_202 := Zb.w (M := C_201) zb_201 (by decide +kernel)
theorem n_202 : C_202.1 = 100 := n_wr (M := C_201) n_201
theorem zb_203 : Zb C_203 := Zb.w (M := C_202) zb_202 (by decide +kernel)
theorem n_203 : C_203.1 = 100 := n_wr (M := C_202) n_202
theorem zb_204 : Zb C_204 := Zb.n (M := C_203) 100 zb_203 n_203 (by decide +kernel)
theorem n_204 : C_204.1 = 101 := n_nw (M := C_203) n_203 rfl
theorem zb_205 : Zb C_205 := Zb.n (M := C_204) 101 zb_204 n_204 (by decide +kernel)
theorem n_205 : C_205.1 = 102 := n_nw (M := C_204) n_204 rfl
theorem zb_206 : Zb C_206 := Zb.w (M := C_205) zb_205 (by decide +kernel)
theorem n_206 : C_206.1 = 102 := n_wr (M := C_205) n_205
theorem zb_207 : Zb C_207 := Zb.n (M := C_206) 102 zb_206 n_206 (by decide +kernel)
theorem n_207 : C_207.1 = 103 := n_nw (M := C_206) n_206 rfl
theorem zb_208 : Zb C_208 := Zb.w (M := C_207) zb_207 (by decide +kernel)
theorem n_208 : C_208.1 = 103 := n_wr (M := C_207) n_207
theorem zb_209 : Zb C_209 := Zb.w (M := C_208) zb_208 (by decide +kernel)
theorem n_209 : C_209.1 = 103 := n_wr (M := C_208) n_208
theorem zb_210 : Zb C_210 := Zb.w (M := C_209) zb_209 (by decide +kernel)
theorem n_210 : C_210.1 = 103 := n_wr (M := C_209) n_209
theorem zb_211 : Zb C_211 := Zb.n (M := C_210) 103 zb_210 n_210 (by decide +kernel)
theorem n_211 : C_211.1 = 104 := n_nw (M := C_210) n_210 rfl
theorem zb_212 : Zb C_212 := Zb.n (M := C_211) 104 zb_211 n_211 (by decide +kernel)
theorem n_212 : C_212.1 = 105 := n_nw (M := C_211) n_211 rfl
theorem zb_213 : Zb C_213 := Zb.w (M := C_212) zb_212 (by decide +kernel)
theorem n_213 : C_213.1 = 105 := n_wr (M := C_212) n_212
theorem zb_214 : Zb C_214 := Zb.n (M := C_213) 105 zb_213 n_213 (by decide +kernel)
theorem n_214 : C_214.1 = 106 := n_nw (M := C_213) n_213 rfl
theorem zb_215 : Zb C_215 := Zb.w (M := C_214) zb_214 (by decide +kernel)
theorem n_215 : C_215.1 = 106 := n_wr (M := C_214) n_214
theorem zb_216 : Zb C_216 := Zb.n (M := C_215) 106 zb_215 n_215 (by decide +kernel)
theorem n_216 : C_216.1 = 107 := n_nw (M := C_215) n_215 rfl
theorem zb_217 : Zb C_217 := Zb.w (M := C_216) zb_216 (by decide +kernel)
theorem n_217 : C_217.1 = 107 := n_wr (M := C_216) n_216
theorem zb_218 : Zb C_218 := Zb.w (M := C_217) zb_217 (by decide +kernel)
theorem n_218 : C_218.1 = 107 := n_wr (M := C_217) n_217
theorem zb_219 : Zb C_219 := Zb.n (M := C_218) 107 zb_218 n_218 (by decide +kernel)
theorem n_219 : C_219.1 = 108 := n_nw (M := C_218) n_218 rfl
theorem zb_220 : Zb C_220 := Zb.n (M := C_219) 108 zb_219 n_219 (by decide +kernel)
theorem n_220 : C_220.1 = 109 := n_nw (M := C_219) n_219 rfl
theorem zb_221 : Zb C_221 := Zb.w (M := C_220) zb_220 (by decide +kernel)
theorem n_221 : C_221.1 = 109 := n_wr (M := C_220) n_220
theorem zb_222 : Zb C_222 := Zb.n (M := C_221) 109 zb_221 n_221 (by decide +kernel)
theorem n_222 : C_222.1 = 110 := n_nw (M := C_221) n_221 rfl
theorem zb_223 : Zb C_223 := Zb.w (M := C_222) zb_222 (by decide +kernel)
theorem n_223 : C_223.1 = 110 := n_wr (M := C_222) n_222
theorem zb_224 : Zb C_224 := Zb.n (M := C_223) 110 zb_223 n_223 (by decide +kernel)
theorem n_224 : C_224.1 = 111 := n_nw (M := C_223) n_223 rfl
theorem zb_225 : Zb C_225 := Zb.w (M := C_224) zb_224 (by decide +kernel)
theorem n_225 : C_225.1 = 111 := n_wr (M := C_224) n_224
theorem zb_226 : Zb C_226 := Zb.n (M := C_225) 111 zb_225 n_225 (by decide +kernel)
theorem n_226 : C_226.1 = 112 := n_nw (M := C_225) n_225 rfl
theorem zb_227 : Zb C_227 := Zb.w (M := C_226) zb_226 (by decide +kernel)
theorem n_227 : C_227.1 = 112 := n_wr (M := C_226) n_226
theorem zb_228 : Zb C_228 := Zb.n (M := C_227) 112 zb_227 n_227 (by decide +kernel)
theorem n_228 : C_228.1 = 113 := n_nw (M := C_227) n_227 rfl
theorem zb_229 : Zb C_229 := Zb.w (M := C_228) zb_228 (by decide +kernel)
theorem n_229 : C_229.1 = 113 := n_wr (M := C_228) n_228
theorem zb_230 : Zb C_230 := Zb.w (M := C_229) zb_229 (by decide +kernel)
theorem n_230 : C_230.1 = 113 := n_wr (M := C_229) n_229
theorem zb_231 : Zb C_231 := Zb.n (M := C_230) 113 zb_230 n_230 (by decide +kernel)
theorem n_231 : C_231.1 = 114 := n_nw (M := C_230) n_230 rfl
theorem zb_232 : Zb C_232 := Zb.n (M := C_231) 114 zb_231 n_231 (by decide +kernel)
theorem n_232 : C_232.1 = 115 := n_nw (M := C_231) n_231 rfl
theorem zb_233 : Zb C_233 := Zb.w (M := C_232) zb_232 (by decide +kernel)
theorem n_233 : C_233.1 = 115 := n_wr (M := C_232) n_232
theorem zb_234 : Zb C_234 := Zb.n (M := C_233) 115 zb_233 n_233 (by decide +kernel)
theorem n_234 : C_234.1 = 116 := n_nw (M := C_233) n_233 rfl
theorem zb_235 : Zb C_235 := Zb.w (M := C_234) zb_234 (by decide +kernel)
theorem n_235 : C_235.1 = 116 := n_wr (M := C_234) n_234
theorem zb_236 : Zb C_236 := Zb.n (M := C_235) 116 zb_235 n_235 (by decide +kernel)
theorem n_236 : C_236.1 = 117 := n_nw (M := C_235) n_235 rfl
theorem zb_237 : Zb C_237 := Zb.w (M := C_236) zb_236 (by decide +kernel)
theorem n_237 : C_237.1 = 117 := n_wr (M := C_236) n_236
theorem zb_238 : Zb C_238 := Zb.n (M := C_237) 117 zb_237 n_237 (by decide +kernel)
theorem n_238 : C_238.1 = 118 := n_nw (M := C_237) n_237 rfl
theorem zb_239 : Zb C_239 := Zb.w (M := C_238) zb_238 (by decide +kernel)
theorem n_239 : C_239.1 = 118 := n_wr (M := C_238) n_238
theorem zb_240 : Zb C_240 := Zb.n (M := C_239) 118 zb_239 n_239 (by decide +kernel)
theorem n_240 : C_240.1 = 119 := n_nw (M := C_239) n_239 rfl
theorem zb_241 : Zb C_241 := Zb.w (M := C_240) zb_240 (by decide +kernel)
theorem n_241 : C_241.1 = 119 := n_wr (M := C_240) n_240
theorem zb_242 : Zb C_242 := Zb.n (M := C_241) 119 zb_241 n_241 (by decide +kernel)
theorem n_242 : C_242.1 = 120 := n_nw (M := C_241) n_241 rfl
theorem zb_243 : Zb C_243 := Zb.w (M := C_242) zb_242 (by decide +kernel)
theorem n_243 : C_243.1 = 120 := n_wr (M := C_242) n_242
theorem zb_244 : Zb C_244 := Zb.w (M := C_243) zb_243 (by decide +kernel)
theorem n_244 : C_244.1 = 120 := n_wr (M := C_243) n_243
theorem zb_245 : Zb C_245 := Zb.w (M := C_244) zb_244 (by decide +kernel)
theorem n_245 : C_245.1 = 120 := n_wr (M := C_244) n_244
theorem zb_246 : Zb C_246 := Zb.w (M := C_245) zb_245 (by decide +kernel)
theorem n_246 : C_246.1 = 120 := n_wr (M := C_245) n_245
theorem zb_247 : Zb C_247 := Zb.w (M := C_246) zb_246 (by decide +kernel)
theorem n_247 : C_247.1 = 120 := n_wr (M := C_246) n_246
theorem zb_248 : Zb C_248 := Zb.w (M := C_247) zb_247 (by decide +kernel)
theorem n_248 : C_248.1 = 120 := n_wr (M := C_247) n_247
theorem zb_249 : Zb C_249 := Zb.f (M := C_248) zb_248 (by decide +kernel)
theorem n_249 : C_249.1 = 120 := n_fl (M := C_248) n_248
theorem zb_250 : Zb C_250 := Zb.f (M := C_249) zb_249 (by decide +kernel)
theorem n_250 : C_250.1 = 120 := n_fl (M := C_249) n_249
theorem zb_251 : Zb C_251 := Zb.f (M := C_250) zb_250 (by decide +kernel)
theorem n_251 : C_251.1 = 120 := n_fl (M := C_250) n_250
theorem zb_252 : Zb C_252 := Zb.f (M := C_251) zb_251 (by decide +kernel)
theorem n_252 : C_252.1 = 120 := n_fl (M := C_251) n_251
theorem zb_253 : Zb C_253 := Zb.f (M := C_252) zb_252 (by decide +kernel)
theorem n_253 : C_253.1 = 120 := n_fl (M := C_252) n_252
theorem zb_254 : Zb C_254 := Zb.w (M := C_253) zb_253 (by decide +kernel)
theorem n_254 : C_254.1 = 120 := n_wr (M := C_253) n_253
theorem zb_255 : Zb C_255 := Zb.w (M := C_254) zb_254 (by decide +kernel)
theorem n_255 : C_255.1 = 120 := n_wr (M := C_254) n_254
theorem zb_256 : Zb C_256 := Zb.w (M := C_255) zb_255 (by decide +kernel)
theorem n_256 : C_256.1 = 120 := n_wr (M := C_255) n_255
theorem zb_257 : Zb C_257 := Zb.w (M := C_256) zb_256 (by decide +kernel)
theorem n_257 : C_257.1 = 120 := n_wr (M := C_256) n_256
theorem zb_258 : Zb C_258 := Zb.w (M := C_257) zb_257 (by decide +kernel)
theorem n_258 : C_258.1 = 120 := n_wr (M := C_257) n_257
theorem zb_259 : Zb C_259 := Zb.w (M := C_258) zb_258 (by decide +kernel)
theorem n_259 : C_259.1 = 120 := n_wr (M := C_258) n_258
theorem zb_260 : Zb C_260 := Zb.f (M := C_259) zb_259 (by decide +kernel)
theorem n_260 : C_260.1 = 120 := n_fl (M := C_259) n_259
theorem zb_261 : Zb C_261 := Zb.f (M := C_260) zb_260 (by decide +kernel)
theorem n_261 : C_261.1 = 120 := n_fl (M := C_260) n_260
theorem zb_262 : Zb C_262 := Zb.f (M := C_261) zb_261 (by decide +kernel)
theorem n_262 : C_262.1 = 120 := n_fl (M := C_261) n_261
theorem zb_263 : Zb C_263 := Zb.f (M := C_262) zb_262 (by decide +kernel)
theorem n_263 : C_263.1 = 120 := n_fl (M := C_262) n_262
theorem zb_264 : Zb C_264 := Zb.f (M := C_263) zb_263 (by decide +kernel)
theorem n_264 : C_264.1 = 120 := n_fl (M := C_263) n_263
theorem zb_265 : Zb C_265 := Zb.w (M := C_264) zb_264 (by decide +kernel)
theorem n_265 : C_265.1 = 120 := n_wr (M := C_264) n_264
theorem zb_266 : Zb C_266 := Zb.w (M := C_265) zb_265 (by decide +kernel)
theorem n_266 : C_266.1 = 120 := n_wr (M := C_265) n_265
theorem zb_267 : Zb C_267 := Zb.n (M := C_266) 120 zb_266 n_266 (by decide +kernel)
theorem n_267 : C_267.1 = 121 := n_nw (M := C_266) n_266 rfl
theorem zb_268 : Zb C_268 := Zb.n (M := C_267) 121 zb_267 n_267 (by decide +kernel)
theorem n_268 : C_268.1 = 122 := n_nw (M := C_267) n_267 rfl
theorem zb_269 : Zb C_269 := Zb.w (M := C_268) zb_268 (by decide +kernel)
theorem n_269 : C_269.1 = 122 := n_wr (M := C_268) n_268
theorem zb_270 : Zb C_270 := Zb.w (M := C_269) zb_269 (by decide +kernel)
theorem n_270 : C_270.1 = 122 := n_wr (M := C_269) n_269
theorem zb_271 : Zb C_271 := Zb.w (M := C_270) zb_270 (by decide +kernel)
theorem n_271 : C_271.1 = 122 := n_wr (M := C_270) n_270
theorem zb_272 : Zb C_272 := Zb.w (M := C_271) zb_271 (by decide +kernel)
theorem n_272 : C_272.1 = 122 := n_wr (M := C_271) n_271
theorem zb_273 : Zb C_273 := Zb.w (M := C_272) zb_272 (by decide +kernel)
theorem n_273 : C_273.1 = 122 := n_wr (M := C_272) n_272
theorem zb_274 : Zb C_274 := Zb.w (M := C_273) zb_273 (by decide +kernel)
theorem n_274 : C_274.1 = 122 := n_wr (M := C_273) n_273
theorem zb_275 : Zb C_275 := Zb.w (M := C_274) zb_274 (by decide +kernel)
theorem n_275 : C_275.1 = 122 := n_wr (M := C_274) n_274
theorem zb_276 : Zb C_276 := Zb.w (M := C_275) zb_275 (by decide +kernel)
theorem n_276 : C_276.1 = 122 := n_wr (M := C_275) n_275
theorem zb_277 : Zb C_277 := Zb.w (M := C_276) zb_276 (by decide +kernel)
theorem n_277 : C_277.1 = 122 := n_wr (M := C_276) n_276
theorem zb_278 : Zb C_278 := Zb.w (M := C_277) zb_277 (by decide +kernel)
theorem n_278 : C_278.1 = 122 := n_wr (M := C_277) n_277
theorem zb_279 : Zb C_279 := Zb.w (M := C_278) zb_278 (by decide +kernel)
theorem n_279 : C_279.1 = 122 := n_wr (M := C_278) n_278
theorem zb_280 : Zb C_280 := Zb.w (M := C_279) zb_279 (by decide +kernel)
theorem n_280 : C_280.1 = 122 := n_wr (M := C_279) n_279
theorem zb_281 : Zb C_281 := Zb.w (M := C_280) zb_280 (by decide +kernel)
theorem n_281 : C_281.1 = 122 := n_wr (M := C_280) n_280
theorem zb_282 : Zb C_282 := Zb.n (M := C_281) 122 zb_281 n_281 (by decide +kernel)
theorem n_282 : C_282.1 = 123 := n_nw (M := C_281) n_281 rfl
theorem zb_283 : Zb C_283 := Zb.w (M := C_282) zb_282 (by decide +kernel)
theorem n_283 : C_283.1 = 123 := n_wr (M := C_282) n_282
theorem zb_284 : Zb C_284 := Zb.n (M := C_283) 123 zb_283 n_283 (by decide +kernel)
theorem n_284 : C_284.1 = 124 := n_nw (M := C_283) n_283 rfl
theorem zb_285 : Zb C_285 := Zb.w (M := C_284) zb_284 (by decide +kernel)
theorem n_285 : C_285.1 = 124 := n_wr (M := C_284) n_284
theorem zb_286 : Zb C_286 := Zb.n (M := C_285) 124 zb_285 n_285 (by decide +kernel)
theorem n_286 : C_286.1 = 125 := n_nw (M := C_285) n_285 rfl
theorem zb_287 : Zb C_287 := Zb.w (M := C_286) zb_286 (by decide +kernel)
theorem n_287 : C_287.1 = 125 := n_wr (M := C_286) n_286
theorem zb_288 : Zb C_288 := Zb.n (M := C_287) 125 zb_287 n_287 (by decide +kernel)
theorem n_288 : C_288.1 = 126 := n_nw (M := C_287) n_287 rfl
theorem zb_289 : Zb C_289 := Zb.w (M := C_288) zb_288 (by decide +kernel)
theorem n_289 : C_289.1 = 126 := n_wr (M := C_288) n_288
theorem zb_290 : Zb C_290 := Zb.n (M := C_289) 126 zb_289 n_289 (by decide +kernel)
theorem n_290 : C_290.1 = 127 := n_nw (M := C_289) n_289 rfl
theorem zb_291 : Zb C_291 := Zb.w (M := C_290) zb_290 (by decide +kernel)
theorem n_291 : C_291.1 = 127 := n_wr (M := C_290) n_290
theorem zb_292 : Zb C_292 := Zb.n (M := C_291) 127 zb_291 n_291 (by decide +kernel)
theorem n_292 : C_292.1 = 128 := n_nw (M := C_291) n_291 rfl
theorem zb_293 : Zb C_293 := Zb.w (M := C_292) zb_292 (by decide +kernel)
theorem n_293 : C_293.1 = 128 := n_wr (M := C_292) n_292
theorem zb_294 : Zb C_294 := Zb.n (M := C_293) 128 zb_293 n_293 (by decide +kernel)
theorem n_294 : C_294.1 = 129 := n_nw (M := C_293) n_293 rfl
theorem zb_295 : Zb C_295 := Zb.w (M := C_294) zb_294 (by decide +kernel)
theorem n_295 : C_295.1 = 129 := n_wr (M := C_294) n_294
theorem zb_296 : Zb C_296 := Zb.n (M := C_295) 129 zb_295 n_295 (by decide +kernel)
theorem n_296 : C_296.1 = 130 := n_nw (M := C_295) n_295 rfl
theorem zb_297 : Zb C_297 := Zb.w (M := C_296) zb_296 (by decide +kernel)
theorem n_297 : C_297.1 = 130 := n_wr (M := C_296) n_296
theorem zb_298 : Zb C_298 := Zb.n (M := C_297) 130 zb_297 n_297 (by decide +kernel)
theorem n_298 : C_298.1 = 131 := n_nw (M := C_297) n_297 rfl
theorem zb_299 : Zb C_299 := Zb.w (M := C_298) zb_298 (by decide +kernel)
theorem n_299 : C_299.1 = 131 := n_wr (M := C_298) n_298
theorem zb_300 : Zb C_300 := Zb.n (M := C_299) 131 zb_299 n_299 (by decide +kernel)
theorem n_300 : C_300.1 = 132 := n_nw (M := C_299) n_299 rfl
theorem zb_301 : Zb C_301 := Zb.w (M := C_300) zb_300 (by decide +kernel)
theorem n_301 : C_301.1 = 132 := n_wr (M := C_300) n_300
theorem zb_302 : Zb C_302 := Zb.n (M := C_301) 132 zb_301 n_301 (by decide +kernel)
theorem n_302 : C_302.1 = 133 := n_nw (M := C_301) n_301 rfl
theorem zb_303 : Zb C_303 := Zb.w (M := C_302) zb_302 (by decide +kernel)
theorem n_303 : C_303.1 = 133 := n_wr (M := C_302) n_302
theorem zb_304 : Zb C_304 := Zb.n (M := C_303) 133 zb_303 n_303 (by decide +kernel)
theorem n_304 : C_304.1 = 134 := n_nw (M := C_303) n_303 rfl
theorem zb_305 : Zb C_305 := Zb.w (M := C_304) zb_304 (by decide +kernel)
theorem n_305 : C_305.1 = 134 := n_wr (M := C_304) n_304
theorem zb_306 : Zb C_306 := Zb.n (M := C_305) 134 zb_305 n_305 (by decide +kernel)
theorem n_306 : C_306.1 = 135 := n_nw (M := C_305) n_305 rfl
theorem zb_307 : Zb C_307 := Zb.w (M := C_306) zb_306 (by decide +kernel)
theorem n_307 : C_307.1 = 135 := n_wr (M := C_306) n_306
theorem zb_308 : Zb C_308 := Zb.n (M := C_307) 135 zb_307 n_307 (by decide +kernel)
theorem n_308 : C_308.1 = 136 := n_nw (M := C_307) n_307 rfl
theorem zb_309 : Zb C_309 := Zb.w (M := C_308) zb_308 (by decide +kernel)
theorem n_309 : C_309.1 = 136 := n_wr (M := C_308) n_308
theorem zb_310 : Zb C_310 := Zb.n (M := C_309) 136 zb_309 n_309 (by decide +kernel)
theorem n_310 : C_310.1 = 137 := n_nw (M := C_309) n_309 rfl
theorem zb_311 : Zb C_311 := Zb.w (M := C_310) zb_310 (by decide +kernel)
theorem n_311 : C_311.1 = 137 := n_wr (M := C_310) n_310
theorem zb_312 : Zb C_312 := Zb.n (M := C_311) 137 zb_311 n_311 (by decide +kernel)
theorem n_312 : C_312.1 = 138 := n_nw (M := C_311) n_311 rfl
theorem zb_313 : Zb C_313 := Zb.w (M := C_312) zb_312 (by decide +kernel)
theorem n_313 : C_313.1 = 138 := n_wr (M := C_312) n_312
theorem zb_314 : Zb C_314 := Zb.n (M := C_313) 138 zb_313 n_313 (by decide +kernel)
theorem n_314 : C_314.1 = 139 := n_nw (M := C_313) n_313 rfl
theorem zb_315 : Zb C_315 := Zb.w (M := C_314) zb_314 (by decide +kernel)
theorem n_315 : C_315.1 = 139 := n_wr (M := C_314) n_314
theorem zb_316 : Zb C_316 := Zb.n (M := C_315) 139 zb_315 n_315 (by decide +kernel)
theorem n_316 : C_316.1 = 140 := n_nw (M := C_315) n_315 rfl
theorem zb_317 : Zb C_317 := Zb.w (M := C_316) zb_316 (by decide +kernel)
theorem n_317 : C_317.1 = 140 := n_wr (M := C_316) n_316
theorem zb_318 : Zb C_318 := Zb.n (M := C_317) 140 zb_317 n_317 (by decide +kernel)
theorem n_318 : C_318.1 = 141 := n_nw (M := C_317) n_317 rfl
theorem zb_319 : Zb C_319 := Zb.w (M := C_318) zb_318 (by decide +kernel)
theorem n_319 : C_319.1 = 141 := n_wr (M := C_318) n_318
theorem zb_320 : Zb C_320 := Zb.n (M := C_319) 141 zb_319 n_319 (by decide +kernel)
theorem n_320 : C_320.1 = 142 := n_nw (M := C_319) n_319 rfl
theorem zb_321 : Zb C_321 := Zb.w (M := C_320) zb_320 (by decide +kernel)
theorem n_321 : C_321.1 = 142 := n_wr (M := C_320) n_320
theorem zb_322 : Zb C_322 := Zb.n (M := C_321) 142 zb_321 n_321 (by decide +kernel)
theorem n_322 : C_322.1 = 143 := n_nw (M := C_321) n_321 rfl
theorem zb_323 : Zb C_323 := Zb.w (M := C_322) zb_322 (by decide +kernel)
theorem n_323 : C_323.1 = 143 := n_wr (M := C_322) n_322
theorem zb_324 : Zb C_324 := Zb.n (M := C_323) 143 zb_323 n_323 (by decide +kernel)
theorem n_324 : C_324.1 = 144 := n_nw (M := C_323) n_323 rfl
theorem zb_325 : Zb C_325 := Zb.w (M := C_324) zb_324 (by decide +kernel)
theorem n_325 : C_325.1 = 144 := n_wr (M := C_324) n_324
theorem zb_326 : Zb C_326 := Zb.n (M := C_325) 144 zb_325 n_325 (by decide +kernel)
theorem n_326 : C_326.1 = 145 := n_nw (M := C_325) n_325 rfl
theorem zb_327 : Zb C_327 := Zb.w (M := C_326) zb_326 (by decide +kernel)
theorem n_327 : C_327.1 = 145 := n_wr (M := C_326) n_326
theorem zb_328 : Zb C_328 := Zb.w (M := C_327) zb_327 (by decide +kernel)
theorem n_328 : C_328.1 = 145 := n_wr (M := C_327) n_327
theorem zb_329 : Zb C_329 := Zb.w (M := C_328) zb_328 (by decide +kernel)
theorem n_329 : C_329.1 = 145 := n_wr (M := C_328) n_328
theorem zb_330 : Zb C_330 := Zb.n (M := C_329) 145 zb_329 n_329 (by decide +kernel)
theorem n_330 : C_330.1 = 146 := n_nw (M := C_329) n_329 rfl
theorem zb_331 : Zb C_331 := Zb.w (M := C_330) zb_330 (by decide +kernel)
theorem n_331 : C_331.1 = 146 := n_wr (M := C_330) n_330
theorem zb_332 : Zb C_332 := Zb.n (M := C_331) 146 zb_331 n_331 (by decide +kernel)
theorem n_332 : C_332.1 = 147 := n_nw (M := C_331) n_331 rfl
theorem zb_333 : Zb C_333 := Zb.w (M := C_332) zb_332 (by decide +kernel)
theorem n_333 : C_333.1 = 147 := n_wr (M := C_332) n_332
theorem zb_334 : Zb C_334 := Zb.n (M := C_333) 147 zb_333 n_333 (by decide +kernel)
theorem n_334 : C_334.1 = 148 := n_nw (M := C_333) n_333 rfl
theorem zb_335 : Zb C_335 := Zb.w (M := C_334) zb_334 (by decide +kernel)
theorem n_335 : C_335.1 = 148 := n_wr (M := C_334) n_334
theorem zb_336 : Zb C_336 := Zb.n (M := C_335) 148 zb_335 n_335 (by decide +kernel)
theorem n_336 : C_336.1 = 149 := n_nw (M := C_335) n_335 rfl
theorem zb_337 : Zb C_337 := Zb.w (M := C_336) zb_336 (by decide +kernel)
theorem n_337 : C_337.1 = 149 := n_wr (M := C_336) n_336
theorem zb_338 : Zb C_338 := Zb.n (M := C_337) 149 zb_337 n_337 (by decide +kernel)
theorem n_338 : C_338.1 = 150 := n_nw (M := C_337) n_337 rfl
theorem zb_339 : Zb C_339 := Zb.w (M := C_338) zb_338 (by decide +kernel)
theorem n_339 : C_339.1 = 150 := n_wr (M := C_338) n_338
theorem zb_340 : Zb C_340 := Zb.w (M := C_339) zb_339 (by decide +kernel)
theorem n_340 : C_340.1 = 150 := n_wr (M := C_339) n_339
theorem zb_341 : Zb C_341 := Zb.w (M := C_340) zb_340 (by decide +kernel)
theorem n_341 : C_341.1 = 150 := n_wr (M := C_340) n_340
theorem zb_342 : Zb C_342 := Zb.n (M := C_341) 150 zb_341 n_341 (by decide +kernel)
theorem n_342 : C_342.1 = 151 := n_nw (M := C_341) n_341 rfl
theorem zb_343 : Zb C_343 := Zb.w (M := C_342) zb_342 (by decide +kernel)
theorem n_343 : C_343.1 = 151 := n_wr (M := C_342) n_342
theorem zb_344 : Zb C_344 := Zb.w (M := C_343) zb_343 (by decide +kernel)
theorem n_344 : C_344.1 = 151 := n_wr (M := C_343) n_343
theorem zb_345 : Zb C_345 := Zb.w (M := C_344) zb_344 (by decide +kernel)
theorem n_345 : C_345.1 = 151 := n_wr (M := C_344) n_344
theorem zb_346 : Zb C_346 := Zb.n (M := C_345) 151 zb_345 n_345 (by decide +kernel)
theorem n_346 : C_346.1 = 152 := n_nw (M := C_345) n_345 rfl
theorem zb_347 : Zb C_347 := Zb.w (M := C_346) zb_346 (by decide +kernel)
theorem n_347 : C_347.1 = 152 := n_wr (M := C_346) n_346
theorem zb_348 : Zb C_348 := Zb.n (M := C_347) 152 zb_347 n_347 (by decide +kernel)
theorem n_348 : C_348.1 = 153 := n_nw (M := C_347) n_347 rfl
theorem zb_349 : Zb C_349 := Zb.w (M := C_348) zb_348 (by decide +kernel)
theorem n_349 : C_349.1 = 153 := n_wr (M := C_348) n_348
theorem zb_350 : Zb C_350 := Zb.w (M := C_349) zb_349 (by decide +kernel)
theorem n_350 : C_350.1 = 153 := n_wr (M := C_349) n_349
theorem zb_351 : Zb C_351 := Zb.n (M := C_350) 153 zb_350 n_350 (by decide +kernel)
theorem n_351 : C_351.1 = 154 := n_nw (M := C_350) n_350 rfl
theorem zb_352 : Zb C_352 := Zb.w (M := C_351) zb_351 (by decide +kernel)
theorem n_352 : C_352.1 = 154 := n_wr (M := C_351) n_351
theorem zb_353 : Zb C_353 := Zb.n (M := C_352) 154 zb_352 n_352 (by decide +kernel)
theorem n_353 : C_353.1 = 155 := n_nw (M := C_352) n_352 rfl
theorem zb_354 : Zb C_354 := Zb.w (M := C_353) zb_353 (by decide +kernel)
theorem n_354 : C_354.1 = 155 := n_wr (M := C_353) n_353
theorem zb_355 : Zb C_355 := Zb.n (M := C_354) 155 zb_354 n_354 (by decide +kernel)
theorem n_355 : C_355.1 = 156 := n_nw (M := C_354) n_354 rfl
theorem zb_356 : Zb C_356 := Zb.w (M := C_355) zb_355 (by decide +kernel)
theorem n_356 : C_356.1 = 156 := n_wr (M := C_355) n_355
theorem zb_357 : Zb C_357 := Zb.n (M := C_356) 156 zb_356 n_356 (by decide +kernel)
theorem n_357 : C_357.1 = 157 := n_nw (M := C_356) n_356 rfl
theorem zb_358 : Zb C_358 := Zb.w (M := C_357) zb_357 (by decide +kernel)
theorem n_358 : C_358.1 = 157 := n_wr (M := C_357) n_357
theorem zb_359 : Zb C_359 := Zb.n (M := C_358) 157 zb_358 n_358 (by decide +kernel)
theorem n_359 : C_359.1 = 158 := n_nw (M := C_358) n_358 rfl
theorem zb_360 : Zb C_360 := Zb.w (M := C_359) zb_359 (by decide +kernel)
theorem n_360 : C_360.1 = 158 := n_wr (M := C_359) n_359
theorem zb_361 : Zb C_361 := Zb.n (M := C_360) 158 zb_360 n_360 (by decide +kernel)
theorem n_361 : C_361.1 = 159 := n_nw (M := C_360) n_360 rfl
theorem zb_362 : Zb C_362 := Zb.w (M := C_361) zb_361 (by decide +kernel)
theorem n_362 : C_362.1 = 159 := n_wr (M := C_361) n_361
theorem zb_363 : Zb C_363 := Zb.n (M := C_362) 159 zb_362 n_362 (by decide +kernel)
theorem n_363 : C_363.1 = 160 := n_nw (M := C_362) n_362 rfl
theorem zb_364 : Zb C_364 := Zb.w (M := C_363) zb_363 (by decide +kernel)
theorem n_364 : C_364.1 = 160 := n_wr (M := C_363) n_363
theorem zb_365 : Zb C_365 := Zb.n (M := C_364) 160 zb_364 n_364 (by decide +kernel)
theorem n_365 : C_365.1 = 161 := n_nw (M := C_364) n_364 rfl
theorem zb_366 : Zb C_366 := Zb.w (M := C_365) zb_365 (by decide +kernel)
theorem n_366 : C_366.1 = 161 := n_wr (M := C_365) n_365
theorem zb_367 : Zb C_367 := Zb.w (M := C_366) zb_366 (by decide +kernel)
theorem n_367 : C_367.1 = 161 := n_wr (M := C_366) n_366
theorem zb_368 : Zb C_368 := Zb.w (M := C_367) zb_367 (by decide +kernel)
theorem n_368 : C_368.1 = 161 := n_wr (M := C_367) n_367
theorem zb_369 : Zb C_369 := Zb.w (M := C_368) zb_368 (by decide +kernel)
theorem n_369 : C_369.1 = 161 := n_wr (M := C_368) n_368
theorem zb_370 : Zb C_370 := Zb.w (M := C_369) zb_369 (by decide +kernel)
theorem n_370 : C_370.1 = 161 := n_wr (M := C_369) n_369
theorem zb_371 : Zb C_371 := Zb.w (M := C_370) zb_370 (by decide +kernel)
theorem n_371 : C_371.1 = 161 := n_wr (M := C_370) n_370
theorem zb_372 : Zb C_372 := Zb.w (M := C_371) zb_371 (by decide +kernel)
theorem n_372 : C_372.1 = 161 := n_wr (M := C_371) n_371
theorem zb_373 : Zb C_373 := Zb.w (M := C_372) zb_372 (by decide +kernel)
theorem n_373 : C_373.1 = 161 := n_wr (M := C_372) n_372
theorem zb_374 : Zb C_374 := Zb.w (M := C_373) zb_373 (by decide +kernel)
theorem n_374 : C_374.1 = 161 := n_wr (M := C_373) n_373
theorem zb_375 : Zb C_375 := Zb.w (M := C_374) zb_374 (by decide +kernel)
theorem n_375 : C_375.1 = 161 := n_wr (M := C_374) n_374
theorem zb_376 : Zb C_376 := Zb.w (M := C_375) zb_375 (by decide +kernel)
theorem n_376 : C_376.1 = 161 := n_wr (M := C_375) n_375
theorem zb_377 : Zb C_377 := Zb.n (M := C_376) 161 zb_376 n_376 (by decide +kernel)
theorem n_377 : C_377.1 = 162 := n_nw (M := C_376) n_376 rfl
theorem zb_378 : Zb C_378 := Zb.w (M := C_377) zb_377 (by decide +kernel)
theorem n_378 : C_378.1 = 162 := n_wr (M := C_377) n_377
theorem zb_379 : Zb C_379 := Zb.w (M := C_378) zb_378 (by decide +kernel)
theorem n_379 : C_379.1 = 162 := n_wr (M := C_378) n_378
theorem zb_380 : Zb C_380 := Zb.n (M := C_379) 162 zb_379 n_379 (by decide +kernel)
theorem n_380 : C_380.1 = 163 := n_nw (M := C_379) n_379 rfl
theorem zb_381 : Zb C_381 := Zb.w (M := C_380) zb_380 (by decide +kernel)
theorem n_381 : C_381.1 = 163 := n_wr (M := C_380) n_380
theorem zb_382 : Zb C_382 := Zb.n (M := C_381) 163 zb_381 n_381 (by decide +kernel)
theorem n_382 : C_382.1 = 164 := n_nw (M := C_381) n_381 rfl
theorem zb_383 : Zb C_383 := Zb.w (M := C_382) zb_382 (by decide +kernel)
theorem n_383 : C_383.1 = 164 := n_wr (M := C_382) n_382
theorem zb_384 : Zb C_384 := Zb.n (M := C_383) 164 zb_383 n_383 (by decide +kernel)
theorem n_384 : C_384.1 = 165 := n_nw (M := C_383) n_383 rfl
theorem zb_385 : Zb C_385 := Zb.w (M := C_384) zb_384 (by decide +kernel)
theorem n_385 : C_385.1 = 165 := n_wr (M := C_384) n_384
theorem zb_386 : Zb C_386 := Zb.n (M := C_385) 165 zb_385 n_385 (by decide +kernel)
theorem n_386 : C_386.1 = 166 := n_nw (M := C_385) n_385 rfl
theorem zb_387 : Zb C_387 := Zb.w (M := C_386) zb_386 (by decide +kernel)
theorem n_387 : C_387.1 = 166 := n_wr (M := C_386) n_386
theorem zb_388 : Zb C_388 := Zb.w (M := C_387) zb_387 (by decide +kernel)
theorem n_388 : C_388.1 = 166 := n_wr (M := C_387) n_387
theorem zb_389 : Zb C_389 := Zb.n (M := C_388) 166 zb_388 n_388 (by decide +kernel)
theorem n_389 : C_389.1 = 167 := n_nw (M := C_388) n_388 rfl
theorem zb_390 : Zb C_390 := Zb.w (M := C_389) zb_389 (by decide +kernel)
theorem n_390 : C_390.1 = 167 := n_wr (M := C_389) n_389
theorem zb_391 : Zb C_391 := Zb.n (M := C_390) 167 zb_390 n_390 (by decide +kernel)
theorem n_391 : C_391.1 = 168 := n_nw (M := C_390) n_390 rfl
theorem zb_392 : Zb C_392 := Zb.w (M := C_391) zb_391 (by decide +kernel)
theorem n_392 : C_392.1 = 168 := n_wr (M := C_391) n_391
theorem zb_393 : Zb C_393 := Zb.n (M := C_392) 168 zb_392 n_392 (by decide +kernel)
theorem n_393 : C_393.1 = 169 := n_nw (M := C_392) n_392 rfl
theorem zb_394 : Zb C_394 := Zb.w (M := C_393) zb_393 (by decide +kernel)
theorem n_394 : C_394.1 = 169 := n_wr (M := C_393) n_393
theorem zb_395 : Zb C_395 := Zb.w (M := C_394) zb_394 (by decide +kernel)
theorem n_395 : C_395.1 = 169 := n_wr (M := C_394) n_394
theorem zb_396 : Zb C_396 := Zb.n (M := C_395) 169 zb_395 n_395 (by decide +kernel)
theorem n_396 : C_396.1 = 170 := n_nw (M := C_395) n_395 rfl
theorem zb_397 : Zb C_397 := Zb.w (M := C_396) zb_396 (by decide +kernel)
theorem n_397 : C_397.1 = 170 := n_wr (M := C_396) n_396
theorem zb_398 : Zb C_398 := Zb.n (M := C_397) 170 zb_397 n_397 (by decide +kernel)
theorem n_398 : C_398.1 = 171 := n_nw (M := C_397) n_397 rfl
theorem zb_399 : Zb C_399 := Zb.w (M := C_398) zb_398 (by decide +kernel)
theorem n_399 : C_399.1 = 171 := n_wr (M := C_398) n_398
theorem zb_400 : Zb C_400 := Zb.n (M := C_399) 171 zb_399 n_399 (by decide +kernel)
theorem n_400 : C_400.1 = 172 := n_nw (M := C_399) n_399 rfl
theorem zb_401 : Zb C_401 := Zb.w (M := C_400) zb_400 (by decide +kernel)
theorem n_401 : C_401.1 = 172 := n_wr (M := C_400) n_400
theorem zb_402 : Zb C_402 := Zb.n (M := C_401) 172 zb_401 n_401 (by decide +kernel)
theorem n_402 : C_402.1 = 173 := n_nw (M := C_401) n_401 rfl
theorem zb_403 : Zb C_403 := Zb.w (M := C_402) zb_402 (by decide +kernel)
theorem n_403 : C_403.1 = 173 := n_wr (M := C_402) n_402
theorem zb_404 : Zb C_404 := Zb.w (M := C_403) zb_403 (by decide +kernel)
theorem n_404 : C_404.1 = 173 := n_wr (M := C_403) n_403
theorem zb_405 : Zb C_405 := Zb.w (M := C_404) zb_404 (by decide +kernel)
theorem n_405 : C_405.1 = 173 := n_wr (M := C_404) n_404
theorem zb_406 : Zb C_406 := Zb.w (M := C_405) zb_405 (by decide +kernel)
theorem n_406 : C_406.1 = 173 := n_wr (M := C_405) n_405
theorem zb_407 : Zb C_407 := Zb.w (M := C_406) zb_406 (by decide +kernel)
theorem n_407 : C_407.1 = 173 := n_wr (M := C_406) n_406
theorem zb_408 : Zb C_408 := Zb.w (M := C_407) zb_407 (by decide +kernel)
theorem n_408 : C_408.1 = 173 := n_wr (M := C_407) n_407
theorem zb_409 : Zb C_409 := Zb.w (M := C_408) zb_408 (by decide +kernel)
theorem n_409 : C_409.1 = 173 := n_wr (M := C_408) n_408
theorem zb_410 : Zb C_410 := Zb.w (M := C_409) zb_409 (by decide +kernel)
theorem n_410 : C_410.1 = 173 := n_wr (M := C_409) n_409
theorem zb_411 : Zb C_411 := Zb.w (M := C_410) zb_410 (by decide +kernel)
theorem n_411 : C_411.1 = 173 := n_wr (M := C_410) n_410
theorem zb_412 : Zb C_412 := Zb.n (M := C_411) 173 zb_411 n_411 (by decide +kernel)
theorem n_412 : C_412.1 = 174 := n_nw (M := C_411) n_411 rfl
theorem zb_413 : Zb C_413 := Zb.w (M := C_412) zb_412 (by decide +kernel)
theorem n_413 : C_413.1 = 174 := n_wr (M := C_412) n_412
theorem zb_414 : Zb C_414 := Zb.n (M := C_413) 174 zb_413 n_413 (by decide +kernel)
theorem n_414 : C_414.1 = 175 := n_nw (M := C_413) n_413 rfl
theorem zb_415 : Zb C_415 := Zb.w (M := C_414) zb_414 (by decide +kernel)
theorem n_415 : C_415.1 = 175 := n_wr (M := C_414) n_414
theorem zb_416 : Zb C_416 := Zb.n (M := C_415) 175 zb_415 n_415 (by decide +kernel)
theorem n_416 : C_416.1 = 176 := n_nw (M := C_415) n_415 rfl
theorem zb_417 : Zb C_417 := Zb.w (M := C_416) zb_416 (by decide +kernel)
theorem n_417 : C_417.1 = 176 := n_wr (M := C_416) n_416
theorem zb_418 : Zb C_418 := Zb.w (M := C_417) zb_417 (by decide +kernel)
theorem n_418 : C_418.1 = 176 := n_wr (M := C_417) n_417
theorem zb_419 : Zb C_419 := Zb.w (M := C_418) zb_418 (by decide +kernel)
theorem n_419 : C_419.1 = 176 := n_wr (M := C_418) n_418
theorem zb_420 : Zb C_420 := Zb.w (M := C_419) zb_419 (by decide +kernel)
theorem n_420 : C_420.1 = 176 := n_wr (M := C_419) n_419
theorem zb_421 : Zb C_421 := Zb.w (M := C_420) zb_420 (by decide +kernel)
theorem n_421 : C_421.1 = 176 := n_wr (M := C_420) n_420
theorem zb_422 : Zb C_422 := Zb.w (M := C_421) zb_421 (by decide +kernel)
theorem n_422 : C_422.1 = 176 := n_wr (M := C_421) n_421
theorem zb_423 : Zb C_423 := Zb.n (M := C_422) 176 zb_422 n_422 (by decide +kernel)
theorem n_423 : C_423.1 = 177 := n_nw (M := C_422) n_422 rfl
theorem zb_424 : Zb C_424 := Zb.w (M := C_423) zb_423 (by decide +kernel)
theorem n_424 : C_424.1 = 177 := n_wr (M := C_423) n_423
theorem zb_425 : Zb C_425 := Zb.w (M := C_424) zb_424 (by decide +kernel)
theorem n_425 : C_425.1 = 177 := n_wr (M := C_424) n_424
theorem zb_426 : Zb C_426 := Zb.n (M := C_425) 177 zb_425 n_425 (by decide +kernel)
theorem n_426 : C_426.1 = 178 := n_nw (M := C_425) n_425 rfl
theorem zb_427 : Zb C_427 := Zb.w (M := C_426) zb_426 (by decide +kernel)
theorem n_427 : C_427.1 = 178 := n_wr (M := C_426) n_426
theorem zb_428 : Zb C_428 := Zb.n (M := C_427) 178 zb_427 n_427 (by decide +kernel)
theorem n_428 : C_428.1 = 179 := n_nw (M := C_427) n_427 rfl
theorem zb_429 : Zb C_429 := Zb.w (M := C_428) zb_428 (by decide +kernel)
theorem n_429 : C_429.1 = 179 := n_wr (M := C_428) n_428
theorem zb_430 : Zb C_430 := Zb.w (M := C_429) zb_429 (by decide +kernel)
theorem n_430 : C_430.1 = 179 := n_wr (M := C_429) n_429
theorem zb_431 : Zb C_431 := Zb.n (M := C_430) 179 zb_430 n_430 (by decide +kernel)
theorem n_431 : C_431.1 = 180 := n_nw (M := C_430) n_430 rfl
theorem zb_432 : Zb C_432 := Zb.w (M := C_431) zb_431 (by decide +kernel)
theorem n_432 : C_432.1 = 180 := n_wr (M := C_431) n_431
theorem zb_433 : Zb C_433 := Zb.w (M := C_432) zb_432 (by decide +kernel)
theorem n_433 : C_433.1 = 180 := n_wr (M := C_432) n_432
theorem zb_434 : Zb C_434 := Zb.n (M := C_433) 180 zb_433 n_433 (by decide +kernel)
theorem n_434 : C_434.1 = 181 := n_nw (M := C_433) n_433 rfl
theorem zb_435 : Zb C_435 := Zb.w (M := C_434) zb_434 (by decide +kernel)
theorem n_435 : C_435.1 = 181 := n_wr (M := C_434) n_434
theorem zb_436 : Zb C_436 := Zb.n (M := C_435) 181 zb_435 n_435 (by decide +kernel)
theorem n_436 : C_436.1 = 182 := n_nw (M := C_435) n_435 rfl
theorem zb_437 : Zb C_437 := Zb.w (M := C_436) zb_436 (by decide +kernel)
theorem n_437 : C_437.1 = 182 := n_wr (M := C_436) n_436
theorem zb_438 : Zb C_438 := Zb.w (M := C_437) zb_437 (by decide +kernel)
theorem n_438 : C_438.1 = 182 := n_wr (M := C_437) n_437
theorem zb_439 : Zb C_439 := Zb.n (M := C_438) 182 zb_438 n_438 (by decide +kernel)
theorem n_439 : C_439.1 = 183 := n_nw (M := C_438) n_438 rfl
theorem zb_440 : Zb C_440 := Zb.w (M := C_439) zb_439 (by decide +kernel)
theorem n_440 : C_440.1 = 183 := n_wr (M := C_439) n_439
theorem zb_441 : Zb C_441 := Zb.n (M := C_440) 183 zb_440 n_440 (by decide +kernel)
theorem n_441 : C_441.1 = 184 := n_nw (M := C_440) n_440 rfl
theorem zb_442 : Zb C_442 := Zb.w (M := C_441) zb_441 (by decide +kernel)
theorem n_442 : C_442.1 = 184 := n_wr (M := C_441) n_441
theorem zb_443 : Zb C_443 := Zb.n (M := C_442) 184 zb_442 n_442 (by decide +kernel)
theorem n_443 : C_443.1 = 185 := n_nw (M := C_442) n_442 rfl
theorem zb_444 : Zb C_444 := Zb.w (M := C_443) zb_443 (by decide +kernel)
theorem n_444 : C_444.1 = 185 := n_wr (M := C_443) n_443
theorem zb_445 : Zb C_445 := Zb.w (M := C_444) zb_444 (by decide +kernel)
theorem n_445 : C_445.1 = 185 := n_wr (M := C_444) n_444
theorem zb_446 : Zb C_446 := Zb.n (M := C_445) 185 zb_445 n_445 (by decide +kernel)
theorem n_446 : C_446.1 = 186 := n_nw (M := C_445) n_445 rfl
theorem zb_447 : Zb C_447 := Zb.w (M := C_446) zb_446 (by decide +kernel)
theorem n_447 : C_447.1 = 186 := n_wr (M := C_446) n_446
theorem zb_448 : Zb C_448 := Zb.n (M := C_447) 186 zb_447 n_447 (by decide +kernel)
theorem n_448 : C_448.1 = 187 := n_nw (M := C_447) n_447 rfl
theorem zb_449 : Zb C_449 := Zb.w (M := C_448) zb_448 (by decide +kernel)
theorem n_449 : C_449.1 = 187 := n_wr (M := C_448) n_448
theorem zb_450 : Zb C_450 := Zb.n (M := C_449) 187 zb_449 n_449 (by decide +kernel)
theorem n_450 : C_450.1 = 188 := n_nw (M := C_449) n_449 rfl
theorem zb_451 : Zb C_451 := Zb.w (M := C_450) zb_450 (by decide +kernel)
theorem n_451 : C_451.1 = 188 := n_wr (M := C_450) n_450
theorem zb_452 : Zb C_452 := Zb.w (M := C_451) zb_451 (by decide +kernel)
theorem n_452 : C_452.1 = 188 := n_wr (M := C_451) n_451
theorem zb_453 : Zb C_453 := Zb.n (M := C_452) 188 zb_452 n_452 (by decide +kernel)
theorem n_453 : C_453.1 = 189 := n_nw (M := C_452) n_452 rfl
theorem zb_454 : Zb C_454 := Zb.w (M := C_453) zb_453 (by decide +kernel)
theorem n_454 : C_454.1 = 189 := n_wr (M := C_453) n_453
theorem zb_455 : Zb C_455 := Zb.n (M := C_454) 189 zb_454 n_454 (by decide +kernel)
theorem n_455 : C_455.1 = 190 := n_nw (M := C_454) n_454 rfl
theorem zb_456 : Zb C_456 := Zb.w (M := C_455) zb_455 (by decide +kernel)
theorem n_456 : C_456.1 = 190 := n_wr (M := C_455) n_455
theorem zb_457 : Zb C_457 := Zb.n (M := C_456) 190 zb_456 n_456 (by decide +kernel)
theorem n_457 : C_457.1 = 191 := n_nw (M := C_456) n_456 rfl
theorem zb_458 : Zb C_458 := Zb.w (M := C_457) zb_457 (by decide +kernel)
theorem n_458 : C_458.1 = 191 := n_wr (M := C_457) n_457
theorem zb_459 : Zb C_459 := Zb.w (M := C_458) zb_458 (by decide +kernel)
theorem n_459 : C_459.1 = 191 := n_wr (M := C_458) n_458
theorem zb_460 : Zb C_460 := Zb.w (M := C_459) zb_459 (by decide +kernel)
theorem n_460 : C_460.1 = 191 := n_wr (M := C_459) n_459
theorem zb_461 : Zb C_461 := Zb.w (M := C_460) zb_460 (by decide +kernel)
theorem n_461 : C_461.1 = 191 := n_wr (M := C_460) n_460
set_option maxRecDepth 100000 in
set_option maxHeartbeats 4000000 in
theorem fx_0 : ∀ e ∈ fxT, rd C_461 e.1 e.2.1 = e.2.2 := fun e he => of_decide_eq_true (List.all_eq_true.mp (show fxT.all (fun e => decide (rd C_461 e.1 e.2.1 = e.2.2)) = true by decide +kernel) e he)
set_option maxRecDepth 100000 in
set_option maxHeartbeats 4000000 in
theorem iv_0 : ∀ e ∈ ivF, e.2.2.1 ≤ rd C_461 e.1 e.2.1 ∧ rd C_461 e.1 e.2.1 ≤ e.2.2.2 := fun e he => of_decide_eq_true (List.all_eq_true.mp (show ivF.all (fun e => decide (e.2.2.1 ≤ rd C_461 e.1 e.2.1 ∧ rd C_461 e.1 e.2.1 ≤ e.2.2.2)) = true by decide +kernel) e he)
theorem zr_0 {x : Int} (h : (x, 0, 0) ∈ ivZ) (j : Int) : rd C_461 x j = 0 := Int.le_antisymm (zb_461 _ h j).2 (zb_461 _ h j).1
theorem zm {x : Int} (h : (x, 0, 0) ∈ ([(24, 0, 0), (25, 0, 0), (44, 0, 0), (45, 0, 0), (143, 0, 0), (144, 0, 0)] : List (Int × Int × Int))) : (x, 0, 0) ∈ ivZ := List.mem_append_right _ h
set_option maxRecDepth 100000 in
set_option maxHeartbeats 4000000 in
theorem c_0_4 : rd C_461 0 4 = 7 := by decide +kernel
set_option maxRecDepth 100000 in
set_option maxHeartbeats 4000000 in
theorem c_0_5 : rd C_461 0 5 = 27 := by decide +kernel
set_option maxRecDepth 100000 in
set_option maxHeartbeats 4000000 in
theorem c_0_9 : rd C_461 0 9 = 0 := by decide +kernel
set_option maxRecDepth 100000 in
set_option maxHeartbeats 4000000 in
theorem c_15_0 : rd C_461 15 0 = 0 := by decide +kernel
set_option maxRecDepth 100000 in
set_option maxHeartbeats 4000000 in
theorem c_100_3 : rd C_461 100 3 = -1 := by decide +kernel
set_option maxRecDepth 100000 in
set_option maxHeartbeats 4000000 in
theorem c_120_59 : rd C_461 120 59 = -1 := by decide +kernel
set_option maxRecDepth 100000 in
set_option maxHeartbeats 4000000 in
theorem c_120_12 : rd C_461 120 12 = 0 := by decide +kernel
set_option maxRecDepth 100000 in
set_option maxHeartbeats 4000000 in
theorem c_126_0 : rd C_461 126 0 = 0 := by decide +kernel
set_option maxRecDepth 100000 in
set_option maxHeartbeats 4000000 in
theorem c_136_0 : rd C_461 136 0 = 0 := by decide +kernel
set_option maxRecDepth 100000 in
set_option maxHeartbeats 4000000 in
theorem c_123_0 : rd C_461 123 0 = 1 := by decide +kernel
set_option maxRecDepth 100000 in
set_option maxHeartbeats 4000000 in
theorem c_124_0 : rd C_461 124 0 = 1 := by decide +kernel
set_option maxRecDepth 100000 in
set_option maxHeartbeats 4000000 in
theorem c_0_1 : rd C_461 0 1 = 0 := by decide +kernel
set_option maxRecDepth 100000 in
set_option maxHeartbeats 4000000 in
theorem c_120_1 : rd C_461 120 1 = 0 := by decide +kernel
set_option maxRecDepth 100000 in
set_option maxHeartbeats 4000000 in
theorem c_113_0 : rd C_461 113 0 = 0 := by decide +kernel
set_option maxRecDepth 100000 in
set_option maxHeartbeats 4000000 in
theorem c_120_113 : rd C_461 120 113 = 0 := by decide +kernel
set_option maxRecDepth 100000 in
set_option maxHeartbeats 4000000 in
theorem c_63_1 : rd C_461 63 1 = 64 := by decide +kernel
set_option maxRecDepth 100000 in
set_option maxHeartbeats 4000000 in
theorem c_63_0 : rd C_461 63 0 = 0 := by decide +kernel
set_option maxRecDepth 100000 in
set_option maxHeartbeats 4000000 in
theorem c_63_7 : rd C_461 63 7 = 0 := by decide +kernel
set_option maxRecDepth 100000 in
set_option maxHeartbeats 4000000 in
theorem tl_0 : Tl C_461 := by
  refine ⟨Or.inl c_63_1, ?_, ?_, fun j hj => ?_, ?_, fun j hj i i0 i1 => ?_⟩
  · rw [c_63_1]; exact n_461
  · rw [c_63_1]; decide +kernel
  · rw [c_63_1]
    exact of_decide_eq_true (List.all_eq_true.mp (show tJ.all (fun j => decide (rd C_461 63 j = tref 64 j ∧ mT C_461 (rd C_461 63 j) = (if j = 5 then 21 else 20, fN 64))) = true by decide +kernel) j hj)
  · rw [c_63_1, c_63_0, c_63_7]; decide
  · rw [c_63_1] at i1
    exact absurd i1 (by have e : fN 64 = 0 := rfl; rw [e]; omega)
theorem in_0 : In Tru C_461 := by
  refine ⟨⟨fun x _ => rfl, Nat.le_of_eq n_461.symm, fx_0⟩, ⟨iv_0, fun e he j => zb_461 e (List.mem_append_left _ he) j⟩, fun e he i => ?_, tl_0, trivial⟩
  have h : e.1 = 24 ∨ e.1 = 44 ∨ e.1 = 143 := by
    simp only [gcT, List.mem_cons, List.not_mem_nil, or_false] at he
    rcases he with rfl | rfl | rfl <;> decide
  have z : rd C_461 e.1 i = 0 := by rcases h with h | h | h <;> rw [h] <;> exact zr_0 (zm (by decide)) i
  unfold good
  rw [z]
  exact ⟨fun c => absurd c (by decide), fun c => absurd c (by decide)⟩
theorem bk_0 : Bk0 C_461 := by
  refine ⟨fun p p0 p1 => ?_, fun k k0 k1 => ?_, fun k k0 k1 => ?_, fun k k0 k1 => ?_, ?_, fun k k0 k1 => ?_⟩
  · rw [c_126_0] at p1; omega
  · rw [c_136_0] at k1; omega
  · rw [c_136_0] at k1; omega
  · rw [c_136_0] at k1; omega
  · rw [c_124_0, c_123_0]; decide
  · rw [c_136_0] at k1; omega
theorem li_0 : LI C_461 := ⟨in_0, ⟨Or.inl c_100_3, Or.inl ⟨c_0_4, c_0_5, fun k k0 k1 => by rw [c_15_0] at k1; omega, fun c => by rw [c_0_9] at c; cases c⟩⟩, ⟨c_120_59, Or.inl ⟨c_120_12, bk_0⟩⟩, c_0_1.trans c_120_1.symm, c_113_0.trans c_120_113.symm⟩
theorem in_rm {M : Mem} (h : In Tru M) : M.1 ≤ 600000 ∧ M.2.1 ≤ room_1.slots := by
  obtain ⟨h1, h2, h3, -⟩ := h.2.2.2.1
  rw [h2, h3]
  rcases h1 with e | e | e | e | e | e | e <;> rw [e] <;> exact ⟨Nat.le_of_ble_eq_true rfl, Nat.le_of_ble_eq_true rfl⟩
end
/-! 55.out -/
section
/-! what lies outside, out of the Statement's premises -/
def o_ar (U : State) (a L : Nat) (f : Int → Int) : Prop := ∃ cell : Cell, U.heap[a]? = some cell ∧ U.isArrayOf cell .int ∧ cell.vm ≠ .unknown ∧ cell.slots.size = L ∧ ∀ j : Nat, j < L → cell.slots[j]? = some (.int (Int32.ofInt (f (j : Int))))
theorem o_ar.of {args : Array Value} {s : State} {t : Term} {L : Nat} {f : Int → Int} (hL : L < 2 ^ 31) (h1 : (Cond.arrayOf t .int).before args s = true) (h2 : (Cond.eq (.length t) (.int (Int32.ofNat L))).before args s = true) (h3 : ∀ j : Nat, j < L → (Cond.eq (.elem t (.int (Int32.ofNat j))) (.int (Int32.ofInt (f (j : Int))))).before args s = true) : ∃ a : Nat, t.eval args s none [] s = some (.ref a) ∧ a < s.heap.size ∧ o_ar s a L f := by
  have hv := va_eqt h2
  obtain ⟨a, ht, cell, g1, g2, g3, g4, g5, g6, g7⟩ := va_Tof (f := fun j => .int (Int32.ofInt (f (j : Int)))) (A := fun _ => False) hL h1 hv (fun j hj => va_eqt (h3 j hj)) (fun _ _ h => h)
  obtain ⟨b, cell2, hb, harr, hz⟩ := Term.length_spec hv
  cases ht.symm.trans hb
  obtain ⟨hc2, -, -, -⟩ := State.arrayAt?_spec harr
  cases g1.symm.trans hc2
  have hsz : cell.slots.size < 2 ^ 31 := by
    simp only [Term.eval, ht, harr, Option.bind_eq_bind, Option.bind_some] at hv
    by_cases hlt : cell.slots.size < 2147483648
    · exact hlt
    · simp [hlt] at hv
  have e : (Int32.ofNat cell.slots.size).toInt = (Int32.ofNat L).toInt := congrArg Int32.toInt g5
  rw [Int32.toInt_ofNat_small hsz, Int32.toInt_ofNat_small hL] at e
  exact ⟨a, ht, (Array.getElem?_eq_some_iff.mp g1).1, cell, g1, g2, g3, by omega, g6⟩
theorem o_ar.mv {u U : State} {a L : Nat} {f : Int → Int} (h : o_ar u a L f) (hvm : u.vm.Alike U.vm) (hh : U.heap[a]? = u.heap[a]?) : o_ar U a L f := by
  obtain ⟨cell, h1, h2, h3, h4, h5⟩ := h
  exact ⟨cell, by rw [hh]; exact h1, State.isArrayOf_alike hvm h2, h3, h4, h5⟩
def OX (b0 t1 t2 t3 k4 v5 k6 v7 : Nat) (z : Value) (U : State) : Prop := (t1 < b0 ∧ t2 < b0 ∧ t3 < b0) ∧ (o_ar U t1 3 (xT xr_1)) ∧ (o_ar U t2 3 (xT xr_2)) ∧ (o_ar U t3 9 (xT xr_3)) ∧ (va_Z "SipMeter$Machine" "MOST" "[I" (.ref t1) (fun q => b0 ≤ q) U U.heap) ∧ (va_Z "SipMeter$Machine" "FIRST_NAME" "[I" (.ref t2) (fun q => b0 ≤ q) U U.heap) ∧ (va_Z "SipMeter$Turns" "FACTORIALS" "[I" (.ref t3) (fun q => b0 ≤ q) U U.heap) ∧ (va_Z "java/lang/String" "COMPACT_STRINGS" "Z" (.int (Int32.ofInt 1)) (fun q => b0 ≤ q) U U.heap) ∧ (va_Z "jdk/internal/util/Preconditions" "SIOOBE_FORMATTER" "Ljava/util/function/BiFunction;" z (fun q => b0 ≤ q) U U.heap) ∧ (va_O "java/lang/String" k4 (fun q => b0 ≤ q) U U.heap) ∧ (va_OF "java/lang/String" "coder" "B" (.int (Int32.ofInt 0)) k4 (fun q => b0 ≤ q) U U.heap) ∧ (va_OF "java/lang/String" "value" "[B" (.ref v5) k4 (fun q => b0 ≤ q) U U.heap) ∧ (va_O "java/lang/String" k6 (fun q => b0 ≤ q) U U.heap) ∧ (va_OF "java/lang/String" "coder" "B" (.int (Int32.ofInt 0)) k6 (fun q => b0 ≤ q) U U.heap) ∧ (va_OF "java/lang/String" "value" "[B" (.ref v7) k6 (fun q => b0 ≤ q) U U.heap) ∧ (va_T .byte v5 162 (fun j => .int (Int32.ofInt (xT xr_5 (j : Int)))) (fun q => b0 ≤ q) U U.heap) ∧ (va_T .byte v7 16 (fun j => .int (Int32.ofInt (xT xr_7 (j : Int)))) (fun q => b0 ≤ q) U U.heap) ∧ (vk_R (e_cn 7) 57 ";{}=<>+-*/%()[]," k6 U) ∧ (vk_R (e_cn 7) 72 "heart cache part  input var   set   use   hold  free  wait  touch if    while else  sleep wake  on    work  tail  or    and   not   all   held  tick  min   max   " k4 U)
theorem OX.mv {b0 t1 t2 t3 k4 v5 k6 v7 : Nat} {z : Value} {u U : State} (h : OX b0 t1 t2 t3 k4 v5 k6 v7 z u) (hW : u.WarmedH U.vm) (hh : ∀ q : Nat, q < b0 → U.heap[q]? = u.heap[q]?) : OX b0 t1 t2 t3 k4 v5 k6 v7 z U := by
  obtain ⟨hb, p0, p1, p2, p3, p4, p5, p6, p7, p8, p9, p10, p11, p12, p13, p14, p15, p16, p17⟩ := h
  have hq : ∀ a : Nat, a < u.heap.size → ¬ (b0 ≤ a) → U.heap[a]? = u.heap[a]? := fun a _ h => hh a (Nat.not_le.mp h)
  exact ⟨hb, p0.mv hW.alike (hh _ hb.1), p1.mv hW.alike (hh _ hb.2.1), p2.mv hW.alike (hh _ hb.2.2), (va_Z.moved hW.alike p3).kept hq, (va_Z.moved hW.alike p4).kept hq, (va_Z.moved hW.alike p5).kept hq, (va_Z.moved hW.alike p6).kept hq, (va_Z.moved hW.alike p7).kept hq, (va_O.moved hW.alike p8).kept hq, (va_OF.moved hW.alike p9).kept hq, (va_OF.moved hW.alike p10).kept hq, (va_O.moved hW.alike p11).kept hq, (va_OF.moved hW.alike p12).kept hq, (va_OF.moved hW.alike p13).kept hq, (va_T.moved hW.alike p14).kept hq, (va_T.moved hW.alike p15).kept hq, p16.warm hW, p17.warm hW⟩
set_option maxRecDepth 100000 in
set_option maxHeartbeats 4000000 in
theorem ob_1 : (List.range 3).all (fun j => decide ((flatC (Cond.and given_1 narrow_1))[12 + j]? = some (Cond.eq (.elem (.static "SipMeter$Machine" "MOST" "[I") (.int (Int32.ofNat j))) (.int (Int32.ofInt (xT xr_1 (j : Int))))))) = true := by decide +kernel
set_option maxRecDepth 100000 in
set_option maxHeartbeats 4000000 in
theorem ob_2 : (List.range 3).all (fun j => decide ((flatC (Cond.and given_1 narrow_1))[18 + j]? = some (Cond.eq (.elem (.static "SipMeter$Machine" "FIRST_NAME" "[I") (.int (Int32.ofNat j))) (.int (Int32.ofInt (xT xr_2 (j : Int))))))) = true := by decide +kernel
set_option maxRecDepth 100000 in
set_option maxHeartbeats 4000000 in
theorem ob_3 : (List.range 9).all (fun j => decide ((flatC (Cond.and given_1 narrow_1))[24 + j]? = some (Cond.eq (.elem (.static "SipMeter$Turns" "FACTORIALS" "[I") (.int (Int32.ofNat j))) (.int (Int32.ofInt (xT xr_3 (j : Int))))))) = true := by decide +kernel
set_option maxRecDepth 100000 in
set_option maxHeartbeats 4000000 in
theorem ob_5 : (List.range 162).all (fun j => decide ((flatC (Cond.and given_1 narrow_1))[37 + j]? = some (Cond.eq (.elem (.field (.string "SipMeter$Tokens" 72) "java/lang/String" "value" "[B") (.int (Int32.ofNat j))) (.int ((xr_5.map Int32.ofInt).getD j 0))))) = true := by decide +kernel
set_option maxRecDepth 100000 in
set_option maxHeartbeats 4000000 in
theorem ox_5 : Cond.exactly (.string "SipMeter$Tokens" 72) "java/lang/String" ∈ (flatC (Cond.and given_1 narrow_1)) := List.mem_of_getElem? (i := 33) (by decide +kernel)
set_option maxRecDepth 100000 in
set_option maxHeartbeats 4000000 in
theorem oc_5 : Cond.eq (.field (.string "SipMeter$Tokens" 72) "java/lang/String" "coder" "B") (.int 0) ∈ (flatC (Cond.and given_1 narrow_1)) := List.mem_of_getElem? (i := 34) (by decide +kernel)
set_option maxRecDepth 100000 in
set_option maxHeartbeats 4000000 in
theorem oa_5 : Cond.arrayOf (.field (.string "SipMeter$Tokens" 72) "java/lang/String" "value" "[B") .byte ∈ (flatC (Cond.and given_1 narrow_1)) := List.mem_of_getElem? (i := 35) (by decide +kernel)
set_option maxRecDepth 100000 in
set_option maxHeartbeats 4000000 in
theorem ol_5 : Cond.eq (.length (.field (.string "SipMeter$Tokens" 72) "java/lang/String" "value" "[B")) (.int (Int32.ofNat 162)) ∈ (flatC (Cond.and given_1 narrow_1)) := List.mem_of_getElem? (i := 36) (by decide +kernel)
set_option maxRecDepth 100000 in
set_option maxHeartbeats 4000000 in
theorem ob_7 : (List.range 16).all (fun j => decide ((flatC (Cond.and given_1 narrow_1))[203 + j]? = some (Cond.eq (.elem (.field (.string "SipMeter$Tokens" 57) "java/lang/String" "value" "[B") (.int (Int32.ofNat j))) (.int ((xr_7.map Int32.ofInt).getD j 0))))) = true := by decide +kernel
set_option maxRecDepth 100000 in
set_option maxHeartbeats 4000000 in
theorem ox_7 : Cond.exactly (.string "SipMeter$Tokens" 57) "java/lang/String" ∈ (flatC (Cond.and given_1 narrow_1)) := List.mem_of_getElem? (i := 199) (by decide +kernel)
set_option maxRecDepth 100000 in
set_option maxHeartbeats 4000000 in
theorem oc_7 : Cond.eq (.field (.string "SipMeter$Tokens" 57) "java/lang/String" "coder" "B") (.int 0) ∈ (flatC (Cond.and given_1 narrow_1)) := List.mem_of_getElem? (i := 200) (by decide +kernel)
set_option maxRecDepth 100000 in
set_option maxHeartbeats 4000000 in
theorem oa_7 : Cond.arrayOf (.field (.string "SipMeter$Tokens" 57) "java/lang/String" "value" "[B") .byte ∈ (flatC (Cond.and given_1 narrow_1)) := List.mem_of_getElem? (i := 201) (by decide +kernel)
set_option maxRecDepth 100000 in
set_option maxHeartbeats 4000000 in
theorem ol_7 : Cond.eq (.length (.field (.string "SipMeter$Tokens" 57) "java/lang/String" "value" "[B")) (.int (Int32.ofNat 16)) ∈ (flatC (Cond.and given_1 narrow_1)) := List.mem_of_getElem? (i := 202) (by decide +kernel)
theorem xT_m (q : List Int) (j : Nat) : (q.map Int32.ofInt).getD j 0 = Int32.ofInt (xT q (j : Int)) := by
  unfold xT
  rw [Int.toNat_natCast, List.getD_eq_getElem?_getD, List.getD_eq_getElem?_getD, List.getElem?_map]
  cases q[j]? with
  | none => rfl
  | some x => rfl
set_option maxRecDepth 100000 in
set_option maxHeartbeats 4000000 in
theorem OX.of {b : Nat} {s : State} (hts : ∀ w ∈ lw_tbl, w.before #[Value.ref b] s = true) (hgv : (Cond.and given_1 narrow_1).before #[Value.ref b] s = true) : ∃ (t1 t2 t3 k4 v5 k6 v7 : Nat) (z : Value), (z = .null ∨ ∃ t : Nat, z = .ref t) ∧ OX s.heap.size t1 t2 t3 k4 v5 k6 v7 z s := by
  have hs := flat_of_before _ hgv
  have hA : ∀ a : Nat, a < s.heap.size → ¬ (s.heap.size ≤ a) := fun a h => Nat.not_le.mpr h
  obtain ⟨t1, e1, l1, a1⟩ := o_ar.of (t := .static "SipMeter$Machine" "MOST" "[I") (L := 3) (f := xT xr_1) (by decide) (hs _ (List.mem_of_getElem? (i := 10) (by decide +kernel))) (hs _ (List.mem_of_getElem? (i := 11) (by decide +kernel))) (fun j hj => hs _ (List.mem_of_getElem? (of_decide_eq_true (List.all_eq_true.mp ob_1 j (List.mem_range.mpr hj)))))
  have z1 := va_Zof (A := fun q => s.heap.size ≤ q) (hts _ (inT4 (List.mem_of_getElem? (i := 67) (by decide +kernel)))) (hts _ (inT1 (List.mem_of_getElem? (i := 4) (by decide +kernel)))) e1 hA
  obtain ⟨t2, e2, l2, a2⟩ := o_ar.of (t := .static "SipMeter$Machine" "FIRST_NAME" "[I") (L := 3) (f := xT xr_2) (by decide) (hs _ (List.mem_of_getElem? (i := 16) (by decide +kernel))) (hs _ (List.mem_of_getElem? (i := 17) (by decide +kernel))) (fun j hj => hs _ (List.mem_of_getElem? (of_decide_eq_true (List.all_eq_true.mp ob_2 j (List.mem_range.mpr hj)))))
  have z2 := va_Zof (A := fun q => s.heap.size ≤ q) (hts _ (inT4 (List.mem_of_getElem? (i := 77) (by decide +kernel)))) (hts _ (inT1 (List.mem_of_getElem? (i := 4) (by decide +kernel)))) e2 hA
  obtain ⟨t3, e3, l3, a3⟩ := o_ar.of (t := .static "SipMeter$Turns" "FACTORIALS" "[I") (L := 9) (f := xT xr_3) (by decide) (hs _ (List.mem_of_getElem? (i := 22) (by decide +kernel))) (hs _ (List.mem_of_getElem? (i := 23) (by decide +kernel))) (fun j hj => hs _ (List.mem_of_getElem? (of_decide_eq_true (List.all_eq_true.mp ob_3 j (List.mem_range.mpr hj)))))
  have z3 := va_Zof (A := fun q => s.heap.size ≤ q) (hts _ (inT6 (List.mem_of_getElem? (i := 39) (by decide +kernel)))) (hts _ (inT1 (List.mem_of_getElem? (i := 9) (by decide +kernel)))) e3 hA
  have zc := va_Zof (A := fun q => s.heap.size ≤ q) (hts _ (inT3 (List.mem_of_getElem? (i := 151) (by decide +kernel)))) (hts _ (inT1 (List.mem_of_getElem? (i := 15) (by decide +kernel)))) (va_eqi (hs _ (List.mem_of_getElem? (i := 4) (by decide +kernel)) : (Cond.eq (.static "java/lang/String" "COMPACT_STRINGS" "Z") (.int (Int32.ofInt 1))).before _ s = true)) hA
  have zp := va_Zqof (A := fun q => s.heap.size ≤ q) (hts _ (inT3 (List.mem_of_getElem? (i := 159) (by decide +kernel)))) (hts _ (inT1 (List.mem_of_getElem? (i := 17) (by decide +kernel)))) (hs _ (List.mem_of_getElem? (i := 5) (by decide +kernel)) : (Cond.isRef (.static "jdk/internal/util/Preconditions" "SIOOBE_FORMATTER" "Ljava/util/function/BiFunction;")).before _ s = true) hA
  have two : ∀ i : Nat, i < 2 → i = 0 ∨ i = 1 := fun i h => by omega
  obtain ⟨adK, adV, ⟨hS, -⟩, hev⟩ := vk_Sof (args := #[Value.ref b]) (s := s) (N := 2) (tm := fun i => if i = 0 then (.string "SipMeter$Tokens" 72) else (.string "SipMeter$Tokens" 57)) (len := [162, 16]) (byt := [xr_5.map Int32.ofInt, xr_7.map Int32.ofInt]) (A := fun q => s.heap.size ≤ q)
    (fun i hi => by rcases two i hi with rfl | rfl <;> decide)
    (fun i hi => by rcases two i hi with rfl | rfl; exact hs _ ox_5; exact hs _ ox_7)
    (fun i hi => by rcases two i hi with rfl | rfl; exact hs _ oc_5; exact hs _ oc_7)
    (fun i hi => by rcases two i hi with rfl | rfl; exact hs _ oa_5; exact hs _ oa_7)
    (fun i hi => by rcases two i hi with rfl | rfl; exact hs _ ol_5; exact hs _ ol_7)
    (fun i hi j hj => by
      rcases two i hi with rfl | rfl
      · exact hs _ (List.mem_of_getElem? (of_decide_eq_true (List.all_eq_true.mp ob_5 j (List.mem_range.mpr hj))))
      · exact hs _ (List.mem_of_getElem? (of_decide_eq_true (List.all_eq_true.mp ob_7 j (List.mem_range.mpr hj)))))
    (fun i j hi hj hne => by
      have h : (Cond.not (Cond.eq (.string "SipMeter$Tokens" 72) (.string "SipMeter$Tokens" 57))).before #[Value.ref b] s = true := hs _ (List.mem_of_getElem? (i := 219) (by decide +kernel))
      rcases two i hi with rfl | rfl <;> rcases two j hj with rfl | rfl
      · exact absurd rfl hne
      · exact Or.inl h
      · exact Or.inr h
      · exact absurd rfl hne) hA
  obtain ⟨s1, s2, s3, s4⟩ := hS 0 (by decide)
  obtain ⟨r1, r2, r3, r4⟩ := hS 1 (by decide)
  have h5 : (fun j : Nat => Value.int (([xr_5.map Int32.ofInt, xr_7.map Int32.ofInt].getD 0 []).getD j 0)) = fun j : Nat => Value.int (Int32.ofInt (xT xr_5 (j : Int))) := funext fun j => congrArg Value.int (xT_m xr_5 j)
  have h7 : (fun j : Nat => Value.int (([xr_5.map Int32.ofInt, xr_7.map Int32.ofInt].getD 1 []).getD j 0)) = fun j : Nat => Value.int (Int32.ofInt (xT xr_7 (j : Int))) := funext fun j => congrArg Value.int (xT_m xr_7 j)
  rw [h5] at s4
  rw [h7] at r4
  have q7 : vk_R (e_cn 7) 57 ";{}=<>+-*/%()[]," (adK 1) s := vk_R.of (A := #[Value.ref b]) (hts _ (inT3 (List.mem_of_getElem? (i := 186) (by decide +kernel)))) (hev 1 (by decide))
  have q5 : vk_R (e_cn 7) 72 "heart cache part  input var   set   use   hold  free  wait  touch if    while else  sleep wake  on    work  tail  or    and   not   all   held  tick  min   max   " (adK 0) s := vk_R.of (A := #[Value.ref b]) (hts _ (inT3 (List.mem_of_getElem? (i := 141) (by decide +kernel)))) (hev 0 (by decide))
  obtain ⟨z, hz, zq⟩ : ∃ z : Value, (z = .null ∨ ∃ t : Nat, z = .ref t) ∧ va_Z "jdk/internal/util/Preconditions" "SIOOBE_FORMATTER" "Ljava/util/function/BiFunction;" z (fun q => s.heap.size ≤ q) s s.heap := by
    rcases zp with h | ⟨t, h⟩
    · exact ⟨_, Or.inl rfl, h⟩
    · exact ⟨_, Or.inr ⟨t, rfl⟩, h⟩
  exact ⟨t1, t2, t3, adK 0, adV 0, adK 1, adV 1, z, hz, ⟨l1, l2, l3⟩, a1, a2, a3, z1, z2, z3, zc, zq, s1, s2, s3, r1, r2, r3, s4, r4, q7, q5⟩
end
