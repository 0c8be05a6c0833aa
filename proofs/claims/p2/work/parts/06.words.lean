/-! words and decoded instructions of the constructors -/
/-- the constructors of nest mates that are called -/
def nstL : List (String × Nat × MethodName × String) := [("SipMeter", 15, ⟨"SipMeter$Tokens", "<init>", "()V"⟩, "SipMeter"), ("SipMeter", 22, ⟨"SipMeter$Reader", "<init>", "()V"⟩, "SipMeter"), ("SipMeter", 29, ⟨"SipMeter$Machine", "<init>", "()V"⟩, "SipMeter"), ("SipMeter", 55, ⟨"SipMeter$Turns", "<init>", "()V"⟩, "SipMeter"), ("SipMeter", 62, ⟨"SipMeter$Ways", "<init>", "()V"⟩, "SipMeter"), ("SipMeter", 69, ⟨"SipMeter$Fits", "<init>", "()V"⟩, "SipMeter"), ("SipMeter", 76, ⟨"SipMeter$Asks", "<init>", "()V"⟩, "SipMeter"), ("SipMeter$Book", 32, ⟨"SipMeter$Trail", "<init>", "()V"⟩, "SipMeter"), ("SipMeter$Machine", 35, ⟨"SipMeter$Program", "<init>", "()V"⟩, "SipMeter")]
def e_nst (K : EC) : Prop := ∀ U : State, K.2.2.2.2 U → ∀ q ∈ nstL, va_Nw (.methodLinkNest q.1 q.2.1 q.2.2.1 q.2.2.2) U
def mL_law : MD := (13, yL_law, cL_law, 4, some .boolean)
theorem ws_places {ws : List Cond} (ps : List Nat) (hp : ws = ps.filterMap (fun i => lw_tbl[i]?)) (h : ws.all goodWord = true) : ∀ w ∈ ws, w ∈ tblG := fun w hw => by
  have h1 := List.all_eq_true.mp h w hw
  rw [hp] at hw
  obtain ⟨i, -, hi⟩ := List.mem_filterMap.mp hw
  exact tblG_in (List.mem_of_getElem? hi) h1
set_option maxRecDepth 100000 in
theorem iX11 : ∀ w ∈ u_ws RX11 TX11 14, w ∈ tblG := ws_places [677, 679, 681, 683, 685, 687, 689, 691, 693, 695, 697, 699, 701, 703] (by decide +kernel) (by decide +kernel)
theorem ini_11 : Cond.initialized "SipMeter" ∈ tblG := tblG_in (inT1 (List.mem_of_getElem? (i := 1) rfl)) rfl
theorem n_13_7 : e_new 13 7 11 14 := ⟨RX11, TX11, rfl, iX11, tyX11_ok, by decide +kernel, tblG_in (inT1 (List.mem_of_getElem? (i := 24) rfl)) rfl, tblG_in (inT1 (List.mem_of_getElem? (i := 25) rfl)) rfl, ini_11⟩
def mX11_init : MD := (11, yX11_init, cX11_init, 1, none)
theorem s_13_9 : e_siteI 13 9 mX11_init := ⟨tblG_in (inT1 (List.mem_of_getElem? (i := 26) rfl)) rfl, tblG_in (inT1 (List.mem_of_getElem? (i := 27) rfl)) rfl, rfl, rfl⟩
theorem ok_X11_init : e_m mX11_init 0 := ⟨tblG_in (inT1 (List.mem_of_getElem? (i := 28) rfl)) rfl, plainFor_of_name (by decide), rfl, ini_11, by decide +kernel, by decide⟩
theorem d_X11_init_0 : decode mX11_init.2.2.1 0 = .ok (.aload_n 0, 1) := by decide +kernel
theorem d_X11_init_1 : decode mX11_init.2.2.1 1 = .ok (.invokespecial 1, 3) := by decide +kernel
theorem ow2 : Cond.instanceMethod objectInit ∈ tblG := tblG_in (inT1 (List.mem_of_getElem? (i := 30) rfl)) rfl
theorem ow3 : Cond.code objectInit ⟨#[0xb1]⟩ 1 none ∈ tblG := tblG_in (inT1 (List.mem_of_getElem? (i := 31) rfl)) rfl
theorem ow_11_1 : Cond.methodLink (e_cn 11) 1 objectInit ∈ tblG := tblG_in (inT1 (List.mem_of_getElem? (i := 29) rfl)) rfl
theorem d_X11_init_4 : decode mX11_init.2.2.1 4 = .ok (.aload_n 0, 1) := by decide +kernel
theorem d_X11_init_5 : decode mX11_init.2.2.1 5 = .ok (.sipush 900, 3) := by decide +kernel
theorem d_X11_init_8 : decode mX11_init.2.2.1 8 = .ok (.newarray .byte, 2) := by decide +kernel
theorem aw_byte : Cond.arrayClass .byte ∈ tblG := tblG_in (inT1 (List.mem_of_getElem? (i := 60) rfl)) rfl
theorem d_X11_init_10 : decode mX11_init.2.2.1 10 = .ok (.putfield 9, 3) := by decide +kernel
theorem f_11_9 : e_fld 11 9 11 0 14 2 true := ⟨RX11, TX11, 0, rfl, rfl, by decide, rfl, rfl, rfl, iX11, tblG_in (inT3 (List.mem_of_getElem? (i := 48) rfl)) rfl, tyX11_ok, nmX11⟩
theorem d_X11_init_13 : decode mX11_init.2.2.1 13 = .ok (.aload_n 0, 1) := by decide +kernel
theorem d_X11_init_14 : decode mX11_init.2.2.1 14 = .ok (.new 13, 3) := by decide +kernel
set_option maxRecDepth 100000 in
theorem iX7 : ∀ w ∈ u_ws RX7 TX7 6, w ∈ tblG := ws_places [182, 184, 186, 188, 190, 192] (by decide +kernel) (by decide +kernel)
theorem ini_7 : Cond.initialized "SipMeter$Tokens" ∈ tblG := tblG_in (inT1 (List.mem_of_getElem? (i := 2) rfl)) rfl
theorem n_11_13 : e_new 11 13 7 6 := ⟨RX7, TX7, rfl, iX7, tyX7_ok, by decide +kernel, tblG_in (inT1 (List.mem_of_getElem? (i := 32) rfl)) rfl, tblG_in (inT1 (List.mem_of_getElem? (i := 33) rfl)) rfl, ini_7⟩
theorem d_X11_init_17 : decode mX11_init.2.2.1 17 = .ok (.dup, 1) := by decide +kernel
theorem d_X11_init_18 : decode mX11_init.2.2.1 18 = .ok (.invokespecial 15, 3) := by decide +kernel
def mX7_init : MD := (7, yX7_init, cX7_init, 1, none)
theorem s_11_15 {K : EC} (hN : e_nst K) : e_siteIN K 11 15 mX7_init "SipMeter" := ⟨fun U hU => hN U hU (e_cn 11, 15, ⟨"SipMeter$Tokens", "<init>", "()V"⟩, "SipMeter") (List.mem_of_getElem? (i := 0) rfl), tblG_in (inT1 (List.mem_of_getElem? (i := 35) rfl)) rfl, rfl, rfl⟩
theorem ok_X7_init : e_m mX7_init 0 := ⟨tblG_in (inT1 (List.mem_of_getElem? (i := 36) rfl)) rfl, plainFor_of_name (by decide), rfl, ini_7, by decide +kernel, by decide⟩
theorem d_X7_init_0 : decode mX7_init.2.2.1 0 = .ok (.aload_n 0, 1) := by decide +kernel
theorem d_X7_init_1 : decode mX7_init.2.2.1 1 = .ok (.invokespecial 3, 3) := by decide +kernel
theorem ow_7_3 : Cond.methodLink (e_cn 7) 3 objectInit ∈ tblG := tblG_in (inT1 (List.mem_of_getElem? (i := 37) rfl)) rfl
theorem d_X7_init_4 : decode mX7_init.2.2.1 4 = .ok (.aload_n 0, 1) := by decide +kernel
theorem d_X7_init_5 : decode mX7_init.2.2.1 5 = .ok (.sipush 901, 3) := by decide +kernel
theorem d_X7_init_8 : decode mX7_init.2.2.1 8 = .ok (.newarray .int, 2) := by decide +kernel
theorem aw_int : Cond.arrayClass .int ∈ tblG := tblG_in (inT1 (List.mem_of_getElem? (i := 61) rfl)) rfl
theorem d_X7_init_10 : decode mX7_init.2.2.1 10 = .ok (.putfield 9, 3) := by decide +kernel
theorem f_7_9 : e_fld 7 9 7 0 6 2 true := ⟨RX7, TX7, 0, rfl, rfl, by decide, rfl, rfl, rfl, iX7, tblG_in (inT1 (List.mem_of_getElem? (i := 38) rfl)) rfl, tyX7_ok, nmX7⟩
theorem d_X7_init_13 : decode mX7_init.2.2.1 13 = .ok (.aload_n 0, 1) := by decide +kernel
theorem d_X7_init_14 : decode mX7_init.2.2.1 14 = .ok (.sipush 901, 3) := by decide +kernel
theorem d_X7_init_17 : decode mX7_init.2.2.1 17 = .ok (.newarray .int, 2) := by decide +kernel
theorem d_X7_init_19 : decode mX7_init.2.2.1 19 = .ok (.putfield 15, 3) := by decide +kernel
theorem f_7_15 : e_fld 7 15 7 1 6 2 true := ⟨RX7, TX7, 1, rfl, rfl, by decide, rfl, rfl, rfl, iX7, tblG_in (inT1 (List.mem_of_getElem? (i := 40) rfl)) rfl, tyX7_ok, nmX7⟩
theorem d_X7_init_22 : decode mX7_init.2.2.1 22 = .ok (.aload_n 0, 1) := by decide +kernel
theorem d_X7_init_23 : decode mX7_init.2.2.1 23 = .ok (.sipush 901, 3) := by decide +kernel
theorem d_X7_init_26 : decode mX7_init.2.2.1 26 = .ok (.newarray .int, 2) := by decide +kernel
theorem d_X7_init_28 : decode mX7_init.2.2.1 28 = .ok (.putfield 18, 3) := by decide +kernel
theorem f_7_18 : e_fld 7 18 7 2 6 2 true := ⟨RX7, TX7, 2, rfl, rfl, by decide, rfl, rfl, rfl, iX7, tblG_in (inT1 (List.mem_of_getElem? (i := 42) rfl)) rfl, tyX7_ok, nmX7⟩
theorem d_X7_init_31 : decode mX7_init.2.2.1 31 = .ok (.return_, 1) := by decide +kernel
theorem d_X11_init_21 : decode mX11_init.2.2.1 21 = .ok (.putfield 16, 3) := by decide +kernel
theorem f_11_16 : e_fld 11 16 11 2 14 2 true := ⟨RX11, TX11, 2, rfl, rfl, by decide, rfl, rfl, rfl, iX11, tblG_in (inT3 (List.mem_of_getElem? (i := 50) rfl)) rfl, tyX11_ok, nmX11⟩
theorem d_X11_init_24 : decode mX11_init.2.2.1 24 = .ok (.aload_n 0, 1) := by decide +kernel
theorem d_X11_init_25 : decode mX11_init.2.2.1 25 = .ok (.new 20, 3) := by decide +kernel
set_option maxRecDepth 100000 in
theorem iX5 : ∀ w ∈ u_ws RX5 TX5 7, w ∈ tblG := ws_places [212, 214, 216, 218, 220, 222, 224] (by decide +kernel) (by decide +kernel)
theorem ini_5 : Cond.initialized "SipMeter$Reader" ∈ tblG := tblG_in (inT1 (List.mem_of_getElem? (i := 3) rfl)) rfl
theorem n_11_20 : e_new 11 20 5 7 := ⟨RX5, TX5, rfl, iX5, tyX5_ok, by decide +kernel, tblG_in (inT1 (List.mem_of_getElem? (i := 62) rfl)) rfl, tblG_in (inT1 (List.mem_of_getElem? (i := 63) rfl)) rfl, ini_5⟩
theorem d_X11_init_28 : decode mX11_init.2.2.1 28 = .ok (.dup, 1) := by decide +kernel
theorem d_X11_init_29 : decode mX11_init.2.2.1 29 = .ok (.invokespecial 22, 3) := by decide +kernel
def mX5_init : MD := (5, yX5_init, cX5_init, 1, none)
theorem s_11_22 {K : EC} (hN : e_nst K) : e_siteIN K 11 22 mX5_init "SipMeter" := ⟨fun U hU => hN U hU (e_cn 11, 22, ⟨"SipMeter$Reader", "<init>", "()V"⟩, "SipMeter") (List.mem_of_getElem? (i := 1) rfl), tblG_in (inT1 (List.mem_of_getElem? (i := 65) rfl)) rfl, rfl, rfl⟩
theorem ok_X5_init : e_m mX5_init 0 := ⟨tblG_in (inT1 (List.mem_of_getElem? (i := 66) rfl)) rfl, plainFor_of_name (by decide), rfl, ini_5, by decide +kernel, by decide⟩
theorem d_X5_init_0 : decode mX5_init.2.2.1 0 = .ok (.aload_n 0, 1) := by decide +kernel
theorem d_X5_init_1 : decode mX5_init.2.2.1 1 = .ok (.invokespecial 3, 3) := by decide +kernel
theorem ow_5_3 : Cond.methodLink (e_cn 5) 3 objectInit ∈ tblG := tblG_in (inT1 (List.mem_of_getElem? (i := 67) rfl)) rfl
theorem d_X5_init_4 : decode mX5_init.2.2.1 4 = .ok (.aload_n 0, 1) := by decide +kernel
theorem d_X5_init_5 : decode mX5_init.2.2.1 5 = .ok (.iconst 0, 1) := by decide +kernel
theorem d_X5_init_6 : decode mX5_init.2.2.1 6 = .ok (.putfield 9, 3) := by decide +kernel
theorem f_5_9 : e_fld 5 9 5 0 7 0 false := ⟨RX5, TX5, 0, rfl, rfl, by decide, rfl, rfl, rfl, iX5, tblG_in (inT1 (List.mem_of_getElem? (i := 68) rfl)) rfl, tyX5_ok, nmX5⟩
theorem d_X5_init_9 : decode mX5_init.2.2.1 9 = .ok (.aload_n 0, 1) := by decide +kernel
theorem d_X5_init_10 : decode mX5_init.2.2.1 10 = .ok (.iconst (-1), 1) := by decide +kernel
theorem d_X5_init_11 : decode mX5_init.2.2.1 11 = .ok (.putfield 15, 3) := by decide +kernel
theorem f_5_15 : e_fld 5 15 5 1 7 0 false := ⟨RX5, TX5, 1, rfl, rfl, by decide, rfl, rfl, rfl, iX5, tblG_in (inT1 (List.mem_of_getElem? (i := 70) rfl)) rfl, tyX5_ok, nmX5⟩
theorem d_X5_init_14 : decode mX5_init.2.2.1 14 = .ok (.return_, 1) := by decide +kernel
theorem d_X11_init_32 : decode mX11_init.2.2.1 32 = .ok (.putfield 23, 3) := by decide +kernel
theorem f_11_23 : e_fld 11 23 11 3 14 2 true := ⟨RX11, TX11, 3, rfl, rfl, by decide, rfl, rfl, rfl, iX11, tblG_in (inT3 (List.mem_of_getElem? (i := 51) rfl)) rfl, tyX11_ok, nmX11⟩
theorem d_X11_init_35 : decode mX11_init.2.2.1 35 = .ok (.aload_n 0, 1) := by decide +kernel
theorem d_X11_init_36 : decode mX11_init.2.2.1 36 = .ok (.new 27, 3) := by decide +kernel
set_option maxRecDepth 100000 in
theorem iX3 : ∀ w ∈ u_ws RX3 TX3 12, w ∈ tblG := ws_places [342, 344, 346, 348, 350, 352, 354, 356, 358, 360, 362, 364] (by decide +kernel) (by decide +kernel)
theorem ini_3 : Cond.initialized "SipMeter$Machine" ∈ tblG := tblG_in (inT1 (List.mem_of_getElem? (i := 4) rfl)) rfl
theorem n_11_27 : e_new 11 27 3 12 := ⟨RX3, TX3, rfl, iX3, tyX3_ok, by decide +kernel, tblG_in (inT1 (List.mem_of_getElem? (i := 92) rfl)) rfl, tblG_in (inT1 (List.mem_of_getElem? (i := 93) rfl)) rfl, ini_3⟩
theorem d_X11_init_39 : decode mX11_init.2.2.1 39 = .ok (.dup, 1) := by decide +kernel
theorem d_X11_init_40 : decode mX11_init.2.2.1 40 = .ok (.invokespecial 29, 3) := by decide +kernel
def mX3_init : MD := (3, yX3_init, cX3_init, 1, none)
theorem s_11_29 {K : EC} (hN : e_nst K) : e_siteIN K 11 29 mX3_init "SipMeter" := ⟨fun U hU => hN U hU (e_cn 11, 29, ⟨"SipMeter$Machine", "<init>", "()V"⟩, "SipMeter") (List.mem_of_getElem? (i := 2) rfl), tblG_in (inT1 (List.mem_of_getElem? (i := 95) rfl)) rfl, rfl, rfl⟩
theorem ok_X3_init : e_m mX3_init 0 := ⟨tblG_in (inT1 (List.mem_of_getElem? (i := 96) rfl)) rfl, plainFor_of_name (by decide), rfl, ini_3, by decide +kernel, by decide⟩
theorem d_X3_init_0 : decode mX3_init.2.2.1 0 = .ok (.aload_n 0, 1) := by decide +kernel
theorem d_X3_init_1 : decode mX3_init.2.2.1 1 = .ok (.invokespecial 3, 3) := by decide +kernel
theorem ow_3_3 : Cond.methodLink (e_cn 3) 3 objectInit ∈ tblG := tblG_in (inT1 (List.mem_of_getElem? (i := 97) rfl)) rfl
theorem d_X3_init_4 : decode mX3_init.2.2.1 4 = .ok (.aload_n 0, 1) := by decide +kernel
theorem d_X3_init_5 : decode mX3_init.2.2.1 5 = .ok (.iconst 3, 1) := by decide +kernel
theorem d_X3_init_6 : decode mX3_init.2.2.1 6 = .ok (.newarray .int, 2) := by decide +kernel
theorem d_X3_init_8 : decode mX3_init.2.2.1 8 = .ok (.putfield 11, 3) := by decide +kernel
theorem f_3_11 : e_fld 3 11 3 4 12 2 true := ⟨RX3, TX3, 4, rfl, rfl, by decide, rfl, rfl, rfl, iX3, tblG_in (inT1 (List.mem_of_getElem? (i := 172) rfl)) rfl, tyX3_ok, nmX3⟩
theorem d_X3_init_11 : decode mX3_init.2.2.1 11 = .ok (.aload_n 0, 1) := by decide +kernel
theorem d_X3_init_12 : decode mX3_init.2.2.1 12 = .ok (.bipush 24, 2) := by decide +kernel
theorem d_X3_init_14 : decode mX3_init.2.2.1 14 = .ok (.newarray .int, 2) := by decide +kernel
theorem d_X3_init_16 : decode mX3_init.2.2.1 16 = .ok (.putfield 15, 3) := by decide +kernel
theorem f_3_15 : e_fld 3 15 3 5 12 2 true := ⟨RX3, TX3, 5, rfl, rfl, by decide, rfl, rfl, rfl, iX3, tblG_in (inT1 (List.mem_of_getElem? (i := 178) rfl)) rfl, tyX3_ok, nmX3⟩
theorem d_X3_init_19 : decode mX3_init.2.2.1 19 = .ok (.aload_n 0, 1) := by decide +kernel
theorem d_X3_init_20 : decode mX3_init.2.2.1 20 = .ok (.bipush 6, 2) := by decide +kernel
theorem d_X3_init_22 : decode mX3_init.2.2.1 22 = .ok (.newarray .int, 2) := by decide +kernel
theorem d_X3_init_24 : decode mX3_init.2.2.1 24 = .ok (.putfield 18, 3) := by decide +kernel
theorem f_3_18 : e_fld 3 18 3 6 12 2 true := ⟨RX3, TX3, 6, rfl, rfl, by decide, rfl, rfl, rfl, iX3, tblG_in (inT1 (List.mem_of_getElem? (i := 185) rfl)) rfl, tyX3_ok, nmX3⟩
theorem d_X3_init_27 : decode mX3_init.2.2.1 27 = .ok (.aload_n 0, 1) := by decide +kernel
theorem d_X3_init_28 : decode mX3_init.2.2.1 28 = .ok (.bipush 6, 2) := by decide +kernel
theorem d_X3_init_30 : decode mX3_init.2.2.1 30 = .ok (.newarray .int, 2) := by decide +kernel
theorem d_X3_init_32 : decode mX3_init.2.2.1 32 = .ok (.putfield 21, 3) := by decide +kernel
theorem f_3_21 : e_fld 3 21 3 7 12 2 true := ⟨RX3, TX3, 7, rfl, rfl, by decide, rfl, rfl, rfl, iX3, tblG_in (inT1 (List.mem_of_getElem? (i := 188) rfl)) rfl, tyX3_ok, nmX3⟩
theorem d_X3_init_35 : decode mX3_init.2.2.1 35 = .ok (.aload_n 0, 1) := by decide +kernel
theorem d_X3_init_36 : decode mX3_init.2.2.1 36 = .ok (.iconst 3, 1) := by decide +kernel
theorem d_X3_init_37 : decode mX3_init.2.2.1 37 = .ok (.newarray .int, 2) := by decide +kernel
theorem d_X3_init_39 : decode mX3_init.2.2.1 39 = .ok (.putfield 24, 3) := by decide +kernel
theorem f_3_24 : e_fld 3 24 3 8 12 2 true := ⟨RX3, TX3, 8, rfl, rfl, by decide, rfl, rfl, rfl, iX3, tblG_in (inT1 (List.mem_of_getElem? (i := 194) rfl)) rfl, tyX3_ok, nmX3⟩
theorem d_X3_init_42 : decode mX3_init.2.2.1 42 = .ok (.aload_n 0, 1) := by decide +kernel
theorem d_X3_init_43 : decode mX3_init.2.2.1 43 = .ok (.iconst 3, 1) := by decide +kernel
theorem d_X3_init_44 : decode mX3_init.2.2.1 44 = .ok (.newarray .int, 2) := by decide +kernel
theorem d_X3_init_46 : decode mX3_init.2.2.1 46 = .ok (.putfield 27, 3) := by decide +kernel
theorem f_3_27 : e_fld 3 27 3 9 12 2 true := ⟨RX3, TX3, 9, rfl, rfl, by decide, rfl, rfl, rfl, iX3, tblG_in (inT1 (List.mem_of_getElem? (i := 198) rfl)) rfl, tyX3_ok, nmX3⟩
theorem d_X3_init_49 : decode mX3_init.2.2.1 49 = .ok (.aload_n 0, 1) := by decide +kernel
theorem d_X3_init_50 : decode mX3_init.2.2.1 50 = .ok (.bipush 15, 2) := by decide +kernel
theorem d_X3_init_52 : decode mX3_init.2.2.1 52 = .ok (.newarray .int, 2) := by decide +kernel
theorem d_X3_init_54 : decode mX3_init.2.2.1 54 = .ok (.putfield 30, 3) := by decide +kernel
theorem f_3_30 : e_fld 3 30 3 10 12 2 true := ⟨RX3, TX3, 10, rfl, rfl, by decide, rfl, rfl, rfl, iX3, tblG_in (inT1 (List.mem_of_getElem? (i := 202) rfl)) rfl, tyX3_ok, nmX3⟩
theorem d_X3_init_57 : decode mX3_init.2.2.1 57 = .ok (.aload_n 0, 1) := by decide +kernel
theorem d_X3_init_58 : decode mX3_init.2.2.1 58 = .ok (.new 33, 3) := by decide +kernel
set_option maxRecDepth 100000 in
theorem iX4 : ∀ w ∈ u_ws RX4 TX4 13, w ∈ tblG := ws_places [267, 269, 271, 273, 275, 277, 279, 281, 283, 285, 287, 289, 291] (by decide +kernel) (by decide +kernel)
theorem ini_4 : Cond.initialized "SipMeter$Program" ∈ tblG := tblG_in (inT1 (List.mem_of_getElem? (i := 5) rfl)) rfl
theorem n_3_33 : e_new 3 33 4 13 := ⟨RX4, TX4, rfl, iX4, tyX4_ok, by decide +kernel, tblG_in (inT1 (List.mem_of_getElem? (i := 98) rfl)) rfl, tblG_in (inT1 (List.mem_of_getElem? (i := 99) rfl)) rfl, ini_4⟩
theorem d_X3_init_61 : decode mX3_init.2.2.1 61 = .ok (.dup, 1) := by decide +kernel
theorem d_X3_init_62 : decode mX3_init.2.2.1 62 = .ok (.invokespecial 35, 3) := by decide +kernel
def mX4_init : MD := (4, yX4_init, cX4_init, 1, none)
theorem s_3_35 {K : EC} (hN : e_nst K) : e_siteIN K 3 35 mX4_init "SipMeter" := ⟨fun U hU => hN U hU (e_cn 3, 35, ⟨"SipMeter$Program", "<init>", "()V"⟩, "SipMeter") (List.mem_of_getElem? (i := 8) rfl), tblG_in (inT1 (List.mem_of_getElem? (i := 101) rfl)) rfl, rfl, rfl⟩
theorem ok_X4_init : e_m mX4_init 0 := ⟨tblG_in (inT1 (List.mem_of_getElem? (i := 102) rfl)) rfl, plainFor_of_name (by decide), rfl, ini_4, by decide +kernel, by decide⟩
theorem d_X4_init_0 : decode mX4_init.2.2.1 0 = .ok (.aload_n 0, 1) := by decide +kernel
theorem d_X4_init_1 : decode mX4_init.2.2.1 1 = .ok (.invokespecial 3, 3) := by decide +kernel
theorem ow_4_3 : Cond.methodLink (e_cn 4) 3 objectInit ∈ tblG := tblG_in (inT1 (List.mem_of_getElem? (i := 103) rfl)) rfl
theorem d_X4_init_4 : decode mX4_init.2.2.1 4 = .ok (.aload_n 0, 1) := by decide +kernel
theorem d_X4_init_5 : decode mX4_init.2.2.1 5 = .ok (.bipush 60, 2) := by decide +kernel
theorem d_X4_init_7 : decode mX4_init.2.2.1 7 = .ok (.newarray .int, 2) := by decide +kernel
theorem d_X4_init_9 : decode mX4_init.2.2.1 9 = .ok (.putfield 9, 3) := by decide +kernel
theorem f_4_9 : e_fld 4 9 4 1 13 2 true := ⟨RX4, TX4, 1, rfl, rfl, by decide, rfl, rfl, rfl, iX4, tblG_in (inT1 (List.mem_of_getElem? (i := 108) rfl)) rfl, tyX4_ok, nmX4⟩
theorem d_X4_init_12 : decode mX4_init.2.2.1 12 = .ok (.aload_n 0, 1) := by decide +kernel
theorem d_X4_init_13 : decode mX4_init.2.2.1 13 = .ok (.bipush 60, 2) := by decide +kernel
theorem d_X4_init_15 : decode mX4_init.2.2.1 15 = .ok (.newarray .int, 2) := by decide +kernel
theorem d_X4_init_17 : decode mX4_init.2.2.1 17 = .ok (.putfield 15, 3) := by decide +kernel
theorem f_4_15 : e_fld 4 15 4 2 13 2 true := ⟨RX4, TX4, 2, rfl, rfl, by decide, rfl, rfl, rfl, iX4, tblG_in (inT1 (List.mem_of_getElem? (i := 111) rfl)) rfl, tyX4_ok, nmX4⟩
theorem d_X4_init_20 : decode mX4_init.2.2.1 20 = .ok (.aload_n 0, 1) := by decide +kernel
theorem d_X4_init_21 : decode mX4_init.2.2.1 21 = .ok (.bipush 61, 2) := by decide +kernel
theorem d_X4_init_23 : decode mX4_init.2.2.1 23 = .ok (.newarray .int, 2) := by decide +kernel
theorem d_X4_init_25 : decode mX4_init.2.2.1 25 = .ok (.putfield 18, 3) := by decide +kernel
theorem f_4_18 : e_fld 4 18 4 3 13 2 true := ⟨RX4, TX4, 3, rfl, rfl, by decide, rfl, rfl, rfl, iX4, tblG_in (inT1 (List.mem_of_getElem? (i := 114) rfl)) rfl, tyX4_ok, nmX4⟩
theorem d_X4_init_28 : decode mX4_init.2.2.1 28 = .ok (.aload_n 0, 1) := by decide +kernel
theorem d_X4_init_29 : decode mX4_init.2.2.1 29 = .ok (.bipush 60, 2) := by decide +kernel
theorem d_X4_init_31 : decode mX4_init.2.2.1 31 = .ok (.newarray .int, 2) := by decide +kernel
theorem d_X4_init_33 : decode mX4_init.2.2.1 33 = .ok (.putfield 21, 3) := by decide +kernel
theorem f_4_21 : e_fld 4 21 4 4 13 2 true := ⟨RX4, TX4, 4, rfl, rfl, by decide, rfl, rfl, rfl, iX4, tblG_in (inT1 (List.mem_of_getElem? (i := 116) rfl)) rfl, tyX4_ok, nmX4⟩
theorem d_X4_init_36 : decode mX4_init.2.2.1 36 = .ok (.aload_n 0, 1) := by decide +kernel
theorem d_X4_init_37 : decode mX4_init.2.2.1 37 = .ok (.bipush 60, 2) := by decide +kernel
theorem d_X4_init_39 : decode mX4_init.2.2.1 39 = .ok (.newarray .int, 2) := by decide +kernel
theorem d_X4_init_41 : decode mX4_init.2.2.1 41 = .ok (.putfield 24, 3) := by decide +kernel
theorem f_4_24 : e_fld 4 24 4 5 13 2 true := ⟨RX4, TX4, 5, rfl, rfl, by decide, rfl, rfl, rfl, iX4, tblG_in (inT1 (List.mem_of_getElem? (i := 119) rfl)) rfl, tyX4_ok, nmX4⟩
theorem d_X4_init_44 : decode mX4_init.2.2.1 44 = .ok (.aload_n 0, 1) := by decide +kernel
theorem d_X4_init_45 : decode mX4_init.2.2.1 45 = .ok (.bipush 60, 2) := by decide +kernel
theorem d_X4_init_47 : decode mX4_init.2.2.1 47 = .ok (.newarray .int, 2) := by decide +kernel
theorem d_X4_init_49 : decode mX4_init.2.2.1 49 = .ok (.putfield 27, 3) := by decide +kernel
theorem f_4_27 : e_fld 4 27 4 6 13 2 true := ⟨RX4, TX4, 6, rfl, rfl, by decide, rfl, rfl, rfl, iX4, tblG_in (inT1 (List.mem_of_getElem? (i := 122) rfl)) rfl, tyX4_ok, nmX4⟩
theorem d_X4_init_52 : decode mX4_init.2.2.1 52 = .ok (.aload_n 0, 1) := by decide +kernel
theorem d_X4_init_53 : decode mX4_init.2.2.1 53 = .ok (.bipush 60, 2) := by decide +kernel
theorem d_X4_init_55 : decode mX4_init.2.2.1 55 = .ok (.newarray .int, 2) := by decide +kernel
theorem d_X4_init_57 : decode mX4_init.2.2.1 57 = .ok (.putfield 30, 3) := by decide +kernel
theorem f_4_30 : e_fld 4 30 4 7 13 2 true := ⟨RX4, TX4, 7, rfl, rfl, by decide, rfl, rfl, rfl, iX4, tblG_in (inT1 (List.mem_of_getElem? (i := 124) rfl)) rfl, tyX4_ok, nmX4⟩
theorem d_X4_init_60 : decode mX4_init.2.2.1 60 = .ok (.aload_n 0, 1) := by decide +kernel
theorem d_X4_init_61 : decode mX4_init.2.2.1 61 = .ok (.bipush 60, 2) := by decide +kernel
theorem d_X4_init_63 : decode mX4_init.2.2.1 63 = .ok (.newarray .int, 2) := by decide +kernel
theorem d_X4_init_65 : decode mX4_init.2.2.1 65 = .ok (.putfield 33, 3) := by decide +kernel
theorem f_4_33 : e_fld 4 33 4 8 13 2 true := ⟨RX4, TX4, 8, rfl, rfl, by decide, rfl, rfl, rfl, iX4, tblG_in (inT1 (List.mem_of_getElem? (i := 125) rfl)) rfl, tyX4_ok, nmX4⟩
theorem d_X4_init_68 : decode mX4_init.2.2.1 68 = .ok (.aload_n 0, 1) := by decide +kernel
theorem d_X4_init_69 : decode mX4_init.2.2.1 69 = .ok (.sipush 900, 3) := by decide +kernel
theorem d_X4_init_72 : decode mX4_init.2.2.1 72 = .ok (.newarray .int, 2) := by decide +kernel
theorem d_X4_init_74 : decode mX4_init.2.2.1 74 = .ok (.putfield 36, 3) := by decide +kernel
theorem f_4_36 : e_fld 4 36 4 9 13 2 true := ⟨RX4, TX4, 9, rfl, rfl, by decide, rfl, rfl, rfl, iX4, tblG_in (inT1 (List.mem_of_getElem? (i := 126) rfl)) rfl, tyX4_ok, nmX4⟩
theorem d_X4_init_77 : decode mX4_init.2.2.1 77 = .ok (.aload_n 0, 1) := by decide +kernel
theorem d_X4_init_78 : decode mX4_init.2.2.1 78 = .ok (.sipush 900, 3) := by decide +kernel
theorem d_X4_init_81 : decode mX4_init.2.2.1 81 = .ok (.newarray .int, 2) := by decide +kernel
theorem d_X4_init_83 : decode mX4_init.2.2.1 83 = .ok (.putfield 39, 3) := by decide +kernel
theorem f_4_39 : e_fld 4 39 4 10 13 2 true := ⟨RX4, TX4, 10, rfl, rfl, by decide, rfl, rfl, rfl, iX4, tblG_in (inT1 (List.mem_of_getElem? (i := 128) rfl)) rfl, tyX4_ok, nmX4⟩
theorem d_X4_init_86 : decode mX4_init.2.2.1 86 = .ok (.aload_n 0, 1) := by decide +kernel
theorem d_X4_init_87 : decode mX4_init.2.2.1 87 = .ok (.bipush 61, 2) := by decide +kernel
theorem d_X4_init_89 : decode mX4_init.2.2.1 89 = .ok (.newarray .int, 2) := by decide +kernel
theorem d_X4_init_91 : decode mX4_init.2.2.1 91 = .ok (.putfield 42, 3) := by decide +kernel
theorem f_4_42 : e_fld 4 42 4 12 13 2 true := ⟨RX4, TX4, 12, rfl, rfl, by decide, rfl, rfl, rfl, iX4, tblG_in (inT1 (List.mem_of_getElem? (i := 131) rfl)) rfl, tyX4_ok, nmX4⟩
theorem d_X4_init_94 : decode mX4_init.2.2.1 94 = .ok (.return_, 1) := by decide +kernel
theorem d_X3_init_65 : decode mX3_init.2.2.1 65 = .ok (.putfield 36, 3) := by decide +kernel
theorem f_3_36 : e_fld 3 36 3 11 12 2 true := ⟨RX3, TX3, 11, rfl, rfl, by decide, rfl, rfl, rfl, iX3, tblG_in (inT1 (List.mem_of_getElem? (i := 203) rfl)) rfl, tyX3_ok, nmX3⟩
theorem d_X3_init_68 : decode mX3_init.2.2.1 68 = .ok (.return_, 1) := by decide +kernel
theorem d_X11_init_43 : decode mX11_init.2.2.1 43 = .ok (.putfield 30, 3) := by decide +kernel
theorem f_11_30 : e_fld 11 30 11 4 14 2 false := ⟨RX11, TX11, 4, rfl, rfl, by decide, rfl, rfl, rfl, iX11, tblG_in (inT3 (List.mem_of_getElem? (i := 52) rfl)) rfl, tyX11_ok, nmX11⟩
theorem d_X11_init_46 : decode mX11_init.2.2.1 46 = .ok (.aload_n 0, 1) := by decide +kernel
theorem d_X11_init_47 : decode mX11_init.2.2.1 47 = .ok (.new 27, 3) := by decide +kernel
theorem d_X11_init_50 : decode mX11_init.2.2.1 50 = .ok (.dup, 1) := by decide +kernel
theorem d_X11_init_51 : decode mX11_init.2.2.1 51 = .ok (.invokespecial 29, 3) := by decide +kernel
theorem d_X11_init_54 : decode mX11_init.2.2.1 54 = .ok (.putfield 34, 3) := by decide +kernel
theorem f_11_34 : e_fld 11 34 11 5 14 2 false := ⟨RX11, TX11, 5, rfl, rfl, by decide, rfl, rfl, rfl, iX11, tblG_in (inT3 (List.mem_of_getElem? (i := 53) rfl)) rfl, tyX11_ok, nmX11⟩
theorem d_X11_init_57 : decode mX11_init.2.2.1 57 = .ok (.aload_n 0, 1) := by decide +kernel
theorem d_X11_init_58 : decode mX11_init.2.2.1 58 = .ok (.iconst 3, 1) := by decide +kernel
theorem d_X11_init_59 : decode mX11_init.2.2.1 59 = .ok (.newarray .int, 2) := by decide +kernel
theorem d_X11_init_61 : decode mX11_init.2.2.1 61 = .ok (.putfield 37, 3) := by decide +kernel
theorem f_11_37 : e_fld 11 37 11 6 14 2 true := ⟨RX11, TX11, 6, rfl, rfl, by decide, rfl, rfl, rfl, iX11, tblG_in (inT3 (List.mem_of_getElem? (i := 54) rfl)) rfl, tyX11_ok, nmX11⟩
theorem d_X11_init_64 : decode mX11_init.2.2.1 64 = .ok (.aload_n 0, 1) := by decide +kernel
theorem d_X11_init_65 : decode mX11_init.2.2.1 65 = .ok (.new 41, 3) := by decide +kernel
set_option maxRecDepth 100000 in
theorem iX6 : ∀ w ∈ u_ws RX6 TX6 18, w ∈ tblG := ws_places [502, 504, 506, 508, 510, 512, 514, 516, 518, 520, 522, 524, 526, 528, 530, 532, 534, 536] (by decide +kernel) (by decide +kernel)
theorem ini_6 : Cond.initialized "SipMeter$Runner" ∈ tblG := tblG_in (inT1 (List.mem_of_getElem? (i := 6) rfl)) rfl
theorem n_11_41 : e_new 11 41 6 18 := ⟨RX6, TX6, rfl, iX6, tyX6_ok, by decide +kernel, tblG_in (inT1 (List.mem_of_getElem? (i := 232) rfl)) rfl, tblG_in (inT1 (List.mem_of_getElem? (i := 233) rfl)) rfl, ini_6⟩
theorem d_X11_init_68 : decode mX11_init.2.2.1 68 = .ok (.dup, 1) := by decide +kernel
theorem d_X11_init_69 : decode mX11_init.2.2.1 69 = .ok (.iconst 1, 1) := by decide +kernel
theorem d_X11_init_70 : decode mX11_init.2.2.1 70 = .ok (.invokespecial 43, 3) := by decide +kernel
def mX6_init : MD := (6, yX6_init, cX6_init, 2, none)
theorem s_11_43 : e_siteI 11 43 mX6_init := ⟨tblG_in (inT1 (List.mem_of_getElem? (i := 234) rfl)) rfl, tblG_in (inT1 (List.mem_of_getElem? (i := 235) rfl)) rfl, rfl, rfl⟩
theorem ok_X6_init : e_m mX6_init 1 := ⟨tblG_in (inT1 (List.mem_of_getElem? (i := 236) rfl)) rfl, plainFor_of_name (by decide), rfl, ini_6, by decide +kernel, by decide⟩
theorem d_X6_init_0 : decode mX6_init.2.2.1 0 = .ok (.aload_n 0, 1) := by decide +kernel
theorem d_X6_init_1 : decode mX6_init.2.2.1 1 = .ok (.invokespecial 3, 3) := by decide +kernel
theorem ow_6_3 : Cond.methodLink (e_cn 6) 3 objectInit ∈ tblG := tblG_in (inT1 (List.mem_of_getElem? (i := 237) rfl)) rfl
theorem d_X6_init_4 : decode mX6_init.2.2.1 4 = .ok (.aload_n 0, 1) := by decide +kernel
theorem d_X6_init_5 : decode mX6_init.2.2.1 5 = .ok (.iconst 3, 1) := by decide +kernel
theorem d_X6_init_6 : decode mX6_init.2.2.1 6 = .ok (.newarray .int, 2) := by decide +kernel
theorem d_X6_init_8 : decode mX6_init.2.2.1 8 = .ok (.putfield 9, 3) := by decide +kernel
theorem f_6_9 : e_fld 6 9 6 2 18 2 true := ⟨RX6, TX6, 2, rfl, rfl, by decide, rfl, rfl, rfl, iX6, tblG_in (inT2 (List.mem_of_getElem? (i := 102) rfl)) rfl, tyX6_ok, nmX6⟩
theorem d_X6_init_11 : decode mX6_init.2.2.1 11 = .ok (.aload_n 0, 1) := by decide +kernel
theorem d_X6_init_12 : decode mX6_init.2.2.1 12 = .ok (.bipush 6, 2) := by decide +kernel
theorem d_X6_init_14 : decode mX6_init.2.2.1 14 = .ok (.newarray .int, 2) := by decide +kernel
theorem d_X6_init_16 : decode mX6_init.2.2.1 16 = .ok (.putfield 15, 3) := by decide +kernel
theorem f_6_15 : e_fld 6 15 6 3 18 2 true := ⟨RX6, TX6, 3, rfl, rfl, by decide, rfl, rfl, rfl, iX6, tblG_in (inT2 (List.mem_of_getElem? (i := 103) rfl)) rfl, tyX6_ok, nmX6⟩
theorem d_X6_init_19 : decode mX6_init.2.2.1 19 = .ok (.aload_n 0, 1) := by decide +kernel
theorem d_X6_init_20 : decode mX6_init.2.2.1 20 = .ok (.bipush 64, 2) := by decide +kernel
theorem d_X6_init_22 : decode mX6_init.2.2.1 22 = .ok (.newarray .int, 2) := by decide +kernel
theorem d_X6_init_24 : decode mX6_init.2.2.1 24 = .ok (.putfield 18, 3) := by decide +kernel
theorem f_6_18 : e_fld 6 18 6 4 18 2 true := ⟨RX6, TX6, 4, rfl, rfl, by decide, rfl, rfl, rfl, iX6, tblG_in (inT2 (List.mem_of_getElem? (i := 105) rfl)) rfl, tyX6_ok, nmX6⟩
theorem d_X6_init_27 : decode mX6_init.2.2.1 27 = .ok (.aload_n 0, 1) := by decide +kernel
theorem d_X6_init_28 : decode mX6_init.2.2.1 28 = .ok (.bipush 8, 2) := by decide +kernel
theorem d_X6_init_30 : decode mX6_init.2.2.1 30 = .ok (.newarray .int, 2) := by decide +kernel
theorem d_X6_init_32 : decode mX6_init.2.2.1 32 = .ok (.putfield 21, 3) := by decide +kernel
theorem f_6_21 : e_fld 6 21 6 5 18 2 true := ⟨RX6, TX6, 5, rfl, rfl, by decide, rfl, rfl, rfl, iX6, tblG_in (inT2 (List.mem_of_getElem? (i := 106) rfl)) rfl, tyX6_ok, nmX6⟩
theorem d_X6_init_35 : decode mX6_init.2.2.1 35 = .ok (.aload_n 0, 1) := by decide +kernel
theorem d_X6_init_36 : decode mX6_init.2.2.1 36 = .ok (.bipush 6, 2) := by decide +kernel
theorem d_X6_init_38 : decode mX6_init.2.2.1 38 = .ok (.newarray .int, 2) := by decide +kernel
theorem d_X6_init_40 : decode mX6_init.2.2.1 40 = .ok (.putfield 24, 3) := by decide +kernel
theorem f_6_24 : e_fld 6 24 6 6 18 2 true := ⟨RX6, TX6, 6, rfl, rfl, by decide, rfl, rfl, rfl, iX6, tblG_in (inT2 (List.mem_of_getElem? (i := 107) rfl)) rfl, tyX6_ok, nmX6⟩
theorem d_X6_init_43 : decode mX6_init.2.2.1 43 = .ok (.aload_n 0, 1) := by decide +kernel
theorem d_X6_init_44 : decode mX6_init.2.2.1 44 = .ok (.bipush 6, 2) := by decide +kernel
theorem d_X6_init_46 : decode mX6_init.2.2.1 46 = .ok (.newarray .int, 2) := by decide +kernel
theorem d_X6_init_48 : decode mX6_init.2.2.1 48 = .ok (.putfield 27, 3) := by decide +kernel
theorem f_6_27 : e_fld 6 27 6 7 18 2 true := ⟨RX6, TX6, 7, rfl, rfl, by decide, rfl, rfl, rfl, iX6, tblG_in (inT2 (List.mem_of_getElem? (i := 108) rfl)) rfl, tyX6_ok, nmX6⟩
theorem d_X6_init_51 : decode mX6_init.2.2.1 51 = .ok (.aload_n 0, 1) := by decide +kernel
theorem d_X6_init_52 : decode mX6_init.2.2.1 52 = .ok (.bipush 6, 2) := by decide +kernel
theorem d_X6_init_54 : decode mX6_init.2.2.1 54 = .ok (.newarray .int, 2) := by decide +kernel
theorem d_X6_init_56 : decode mX6_init.2.2.1 56 = .ok (.putfield 30, 3) := by decide +kernel
theorem f_6_30 : e_fld 6 30 6 8 18 2 true := ⟨RX6, TX6, 8, rfl, rfl, by decide, rfl, rfl, rfl, iX6, tblG_in (inT2 (List.mem_of_getElem? (i := 109) rfl)) rfl, tyX6_ok, nmX6⟩
theorem d_X6_init_59 : decode mX6_init.2.2.1 59 = .ok (.aload_n 0, 1) := by decide +kernel
theorem d_X6_init_60 : decode mX6_init.2.2.1 60 = .ok (.new 33, 3) := by decide +kernel
set_option maxRecDepth 100000 in
theorem iX1 : ∀ w ∈ u_ws RX1 TX1 9, w ∈ tblG := ws_places [454, 456, 458, 460, 462, 464, 466, 468, 470] (by decide +kernel) (by decide +kernel)
theorem ini_1 : Cond.initialized "SipMeter$Book" ∈ tblG := tblG_in (inT1 (List.mem_of_getElem? (i := 7) rfl)) rfl
theorem n_6_33 : e_new 6 33 1 9 := ⟨RX1, TX1, rfl, iX1, tyX1_ok, by decide +kernel, tblG_in (inT1 (List.mem_of_getElem? (i := 238) rfl)) rfl, tblG_in (inT1 (List.mem_of_getElem? (i := 239) rfl)) rfl, ini_1⟩
theorem d_X6_init_63 : decode mX6_init.2.2.1 63 = .ok (.dup, 1) := by decide +kernel
theorem d_X6_init_64 : decode mX6_init.2.2.1 64 = .ok (.iload_n 1, 1) := by decide +kernel
theorem d_X6_init_65 : decode mX6_init.2.2.1 65 = .ok (.invokespecial 35, 3) := by decide +kernel
def mX1_init : MD := (1, yX1_init, cX1_init, 2, none)
theorem s_6_35 : e_siteI 6 35 mX1_init := ⟨tblG_in (inT2 (List.mem_of_getElem? (i := 0) rfl)) rfl, tblG_in (inT2 (List.mem_of_getElem? (i := 1) rfl)) rfl, rfl, rfl⟩
theorem ok_X1_init : e_m mX1_init 1 := ⟨tblG_in (inT2 (List.mem_of_getElem? (i := 2) rfl)) rfl, plainFor_of_name (by decide), rfl, ini_1, by decide +kernel, by decide⟩
theorem d_X1_init_0 : decode mX1_init.2.2.1 0 = .ok (.aload_n 0, 1) := by decide +kernel
theorem d_X1_init_1 : decode mX1_init.2.2.1 1 = .ok (.invokespecial 3, 3) := by decide +kernel
theorem ow_1_3 : Cond.methodLink (e_cn 1) 3 objectInit ∈ tblG := tblG_in (inT2 (List.mem_of_getElem? (i := 3) rfl)) rfl
theorem d_X1_init_4 : decode mX1_init.2.2.1 4 = .ok (.aload_n 0, 1) := by decide +kernel
theorem d_X1_init_5 : decode mX1_init.2.2.1 5 = .ok (.bipush 24, 2) := by decide +kernel
theorem d_X1_init_7 : decode mX1_init.2.2.1 7 = .ok (.newarray .int, 2) := by decide +kernel
theorem d_X1_init_9 : decode mX1_init.2.2.1 9 = .ok (.putfield 9, 3) := by decide +kernel
theorem f_1_9 : e_fld 1 9 1 2 9 2 true := ⟨RX1, TX1, 2, rfl, rfl, by decide, rfl, rfl, rfl, iX1, tblG_in (inT2 (List.mem_of_getElem? (i := 68) rfl)) rfl, tyX1_ok, nmX1⟩
theorem d_X1_init_12 : decode mX1_init.2.2.1 12 = .ok (.aload_n 0, 1) := by decide +kernel
theorem d_X1_init_13 : decode mX1_init.2.2.1 13 = .ok (.bipush 6, 2) := by decide +kernel
theorem d_X1_init_15 : decode mX1_init.2.2.1 15 = .ok (.newarray .int, 2) := by decide +kernel
theorem d_X1_init_17 : decode mX1_init.2.2.1 17 = .ok (.putfield 15, 3) := by decide +kernel
theorem f_1_15 : e_fld 1 15 1 3 9 2 true := ⟨RX1, TX1, 3, rfl, rfl, by decide, rfl, rfl, rfl, iX1, tblG_in (inT2 (List.mem_of_getElem? (i := 71) rfl)) rfl, tyX1_ok, nmX1⟩
theorem d_X1_init_20 : decode mX1_init.2.2.1 20 = .ok (.aload_n 0, 1) := by decide +kernel
theorem d_X1_init_21 : decode mX1_init.2.2.1 21 = .ok (.bipush 6, 2) := by decide +kernel
theorem d_X1_init_23 : decode mX1_init.2.2.1 23 = .ok (.newarray .int, 2) := by decide +kernel
theorem d_X1_init_25 : decode mX1_init.2.2.1 25 = .ok (.putfield 18, 3) := by decide +kernel
theorem f_1_18 : e_fld 1 18 1 4 9 2 true := ⟨RX1, TX1, 4, rfl, rfl, by decide, rfl, rfl, rfl, iX1, tblG_in (inT2 (List.mem_of_getElem? (i := 72) rfl)) rfl, tyX1_ok, nmX1⟩
theorem d_X1_init_28 : decode mX1_init.2.2.1 28 = .ok (.aload_n 0, 1) := by decide +kernel
theorem d_X1_init_29 : decode mX1_init.2.2.1 29 = .ok (.bipush 60, 2) := by decide +kernel
theorem d_X1_init_31 : decode mX1_init.2.2.1 31 = .ok (.newarray .int, 2) := by decide +kernel
theorem d_X1_init_33 : decode mX1_init.2.2.1 33 = .ok (.putfield 21, 3) := by decide +kernel
theorem f_1_21 : e_fld 1 21 1 5 9 2 true := ⟨RX1, TX1, 5, rfl, rfl, by decide, rfl, rfl, rfl, iX1, tblG_in (inT2 (List.mem_of_getElem? (i := 73) rfl)) rfl, tyX1_ok, nmX1⟩
theorem d_X1_init_36 : decode mX1_init.2.2.1 36 = .ok (.aload_n 0, 1) := by decide +kernel
theorem d_X1_init_37 : decode mX1_init.2.2.1 37 = .ok (.bipush 60, 2) := by decide +kernel
theorem d_X1_init_39 : decode mX1_init.2.2.1 39 = .ok (.newarray .int, 2) := by decide +kernel
theorem d_X1_init_41 : decode mX1_init.2.2.1 41 = .ok (.putfield 24, 3) := by decide +kernel
theorem f_1_24 : e_fld 1 24 1 6 9 2 true := ⟨RX1, TX1, 6, rfl, rfl, by decide, rfl, rfl, rfl, iX1, tblG_in (inT2 (List.mem_of_getElem? (i := 74) rfl)) rfl, tyX1_ok, nmX1⟩
theorem d_X1_init_44 : decode mX1_init.2.2.1 44 = .ok (.aload_n 0, 1) := by decide +kernel
theorem d_X1_init_45 : decode mX1_init.2.2.1 45 = .ok (.bipush 60, 2) := by decide +kernel
theorem d_X1_init_47 : decode mX1_init.2.2.1 47 = .ok (.newarray .int, 2) := by decide +kernel
theorem d_X1_init_49 : decode mX1_init.2.2.1 49 = .ok (.putfield 27, 3) := by decide +kernel
theorem f_1_27 : e_fld 1 27 1 7 9 2 true := ⟨RX1, TX1, 7, rfl, rfl, by decide, rfl, rfl, rfl, iX1, tblG_in (inT2 (List.mem_of_getElem? (i := 75) rfl)) rfl, tyX1_ok, nmX1⟩
theorem d_X1_init_52 : decode mX1_init.2.2.1 52 = .ok (.aload_n 0, 1) := by decide +kernel
theorem d_X1_init_53 : decode mX1_init.2.2.1 53 = .ok (.new 30, 3) := by decide +kernel
set_option maxRecDepth 100000 in
theorem iX8 : ∀ w ∈ u_ws RX8 TX8 12, w ∈ tblG := ws_places [415, 417, 419, 421, 423, 425, 427, 429, 431, 433, 435, 437] (by decide +kernel) (by decide +kernel)
theorem ini_8 : Cond.initialized "SipMeter$Trail" ∈ tblG := tblG_in (inT1 (List.mem_of_getElem? (i := 8) rfl)) rfl
theorem n_1_30 : e_new 1 30 8 12 := ⟨RX8, TX8, rfl, iX8, tyX8_ok, by decide +kernel, tblG_in (inT2 (List.mem_of_getElem? (i := 4) rfl)) rfl, tblG_in (inT2 (List.mem_of_getElem? (i := 5) rfl)) rfl, ini_8⟩
theorem d_X1_init_56 : decode mX1_init.2.2.1 56 = .ok (.dup, 1) := by decide +kernel
theorem d_X1_init_57 : decode mX1_init.2.2.1 57 = .ok (.invokespecial 32, 3) := by decide +kernel
def mX8_init : MD := (8, yX8_init, cX8_init, 1, none)
theorem s_1_32 {K : EC} (hN : e_nst K) : e_siteIN K 1 32 mX8_init "SipMeter" := ⟨fun U hU => hN U hU (e_cn 1, 32, ⟨"SipMeter$Trail", "<init>", "()V"⟩, "SipMeter") (List.mem_of_getElem? (i := 7) rfl), tblG_in (inT2 (List.mem_of_getElem? (i := 7) rfl)) rfl, rfl, rfl⟩
theorem ok_X8_init : e_m mX8_init 0 := ⟨tblG_in (inT2 (List.mem_of_getElem? (i := 8) rfl)) rfl, plainFor_of_name (by decide), rfl, ini_8, by decide +kernel, by decide⟩
theorem d_X8_init_0 : decode mX8_init.2.2.1 0 = .ok (.aload_n 0, 1) := by decide +kernel
theorem d_X8_init_1 : decode mX8_init.2.2.1 1 = .ok (.invokespecial 3, 3) := by decide +kernel
theorem ow_8_3 : Cond.methodLink (e_cn 8) 3 objectInit ∈ tblG := tblG_in (inT2 (List.mem_of_getElem? (i := 9) rfl)) rfl
theorem d_X8_init_4 : decode mX8_init.2.2.1 4 = .ok (.aload_n 0, 1) := by decide +kernel
theorem d_X8_init_5 : decode mX8_init.2.2.1 5 = .ok (.iconst 0, 1) := by decide +kernel
theorem d_X8_init_6 : decode mX8_init.2.2.1 6 = .ok (.newarray .int, 2) := by decide +kernel
theorem d_X8_init_8 : decode mX8_init.2.2.1 8 = .ok (.putfield 9, 3) := by decide +kernel
theorem f_8_9 : e_fld 8 9 8 1 12 2 false := ⟨RX8, TX8, 1, rfl, rfl, by decide, rfl, rfl, rfl, iX8, tblG_in (inT2 (List.mem_of_getElem? (i := 12) rfl)) rfl, tyX8_ok, nmX8⟩
theorem d_X8_init_11 : decode mX8_init.2.2.1 11 = .ok (.aload_n 0, 1) := by decide +kernel
theorem d_X8_init_12 : decode mX8_init.2.2.1 12 = .ok (.iconst 0, 1) := by decide +kernel
theorem d_X8_init_13 : decode mX8_init.2.2.1 13 = .ok (.newarray .int, 2) := by decide +kernel
theorem d_X8_init_15 : decode mX8_init.2.2.1 15 = .ok (.putfield 15, 3) := by decide +kernel
theorem f_8_15 : e_fld 8 15 8 2 12 2 false := ⟨RX8, TX8, 2, rfl, rfl, by decide, rfl, rfl, rfl, iX8, tblG_in (inT2 (List.mem_of_getElem? (i := 15) rfl)) rfl, tyX8_ok, nmX8⟩
theorem d_X8_init_18 : decode mX8_init.2.2.1 18 = .ok (.aload_n 0, 1) := by decide +kernel
theorem d_X8_init_19 : decode mX8_init.2.2.1 19 = .ok (.iconst 0, 1) := by decide +kernel
theorem d_X8_init_20 : decode mX8_init.2.2.1 20 = .ok (.newarray .int, 2) := by decide +kernel
theorem d_X8_init_22 : decode mX8_init.2.2.1 22 = .ok (.putfield 18, 3) := by decide +kernel
theorem f_8_18 : e_fld 8 18 8 3 12 2 false := ⟨RX8, TX8, 3, rfl, rfl, by decide, rfl, rfl, rfl, iX8, tblG_in (inT2 (List.mem_of_getElem? (i := 18) rfl)) rfl, tyX8_ok, nmX8⟩
theorem d_X8_init_25 : decode mX8_init.2.2.1 25 = .ok (.aload_n 0, 1) := by decide +kernel
theorem d_X8_init_26 : decode mX8_init.2.2.1 26 = .ok (.iconst 0, 1) := by decide +kernel
theorem d_X8_init_27 : decode mX8_init.2.2.1 27 = .ok (.newarray .int, 2) := by decide +kernel
theorem d_X8_init_29 : decode mX8_init.2.2.1 29 = .ok (.putfield 21, 3) := by decide +kernel
theorem f_8_21 : e_fld 8 21 8 4 12 2 false := ⟨RX8, TX8, 4, rfl, rfl, by decide, rfl, rfl, rfl, iX8, tblG_in (inT2 (List.mem_of_getElem? (i := 21) rfl)) rfl, tyX8_ok, nmX8⟩
theorem d_X8_init_32 : decode mX8_init.2.2.1 32 = .ok (.aload_n 0, 1) := by decide +kernel
theorem d_X8_init_33 : decode mX8_init.2.2.1 33 = .ok (.iconst 0, 1) := by decide +kernel
theorem d_X8_init_34 : decode mX8_init.2.2.1 34 = .ok (.newarray .long, 2) := by decide +kernel
theorem aw_long : Cond.arrayClass .long ∈ tblG := tblG_in (inT2 (List.mem_of_getElem? (i := 65) rfl)) rfl
theorem d_X8_init_36 : decode mX8_init.2.2.1 36 = .ok (.putfield 24, 3) := by decide +kernel
theorem f_8_24 : e_fld 8 24 8 5 12 2 false := ⟨RX8, TX8, 5, rfl, rfl, by decide, rfl, rfl, rfl, iX8, tblG_in (inT2 (List.mem_of_getElem? (i := 24) rfl)) rfl, tyX8_ok, nmX8⟩
theorem d_X8_init_39 : decode mX8_init.2.2.1 39 = .ok (.aload_n 0, 1) := by decide +kernel
theorem d_X8_init_40 : decode mX8_init.2.2.1 40 = .ok (.bipush 6, 2) := by decide +kernel
theorem d_X8_init_42 : decode mX8_init.2.2.1 42 = .ok (.newarray .int, 2) := by decide +kernel
theorem d_X8_init_44 : decode mX8_init.2.2.1 44 = .ok (.putfield 28, 3) := by decide +kernel
theorem f_8_28 : e_fld 8 28 8 6 12 2 true := ⟨RX8, TX8, 6, rfl, rfl, by decide, rfl, rfl, rfl, iX8, tblG_in (inT2 (List.mem_of_getElem? (i := 28) rfl)) rfl, tyX8_ok, nmX8⟩
theorem d_X8_init_47 : decode mX8_init.2.2.1 47 = .ok (.aload_n 0, 1) := by decide +kernel
theorem d_X8_init_48 : decode mX8_init.2.2.1 48 = .ok (.iconst 0, 1) := by decide +kernel
theorem d_X8_init_49 : decode mX8_init.2.2.1 49 = .ok (.newarray .int, 2) := by decide +kernel
theorem d_X8_init_51 : decode mX8_init.2.2.1 51 = .ok (.putfield 31, 3) := by decide +kernel
theorem f_8_31 : e_fld 8 31 8 8 12 2 false := ⟨RX8, TX8, 8, rfl, rfl, by decide, rfl, rfl, rfl, iX8, tblG_in (inT2 (List.mem_of_getElem? (i := 32) rfl)) rfl, tyX8_ok, nmX8⟩
theorem d_X8_init_54 : decode mX8_init.2.2.1 54 = .ok (.aload_n 0, 1) := by decide +kernel
theorem d_X8_init_55 : decode mX8_init.2.2.1 55 = .ok (.iconst 0, 1) := by decide +kernel
theorem d_X8_init_56 : decode mX8_init.2.2.1 56 = .ok (.newarray .int, 2) := by decide +kernel
theorem d_X8_init_58 : decode mX8_init.2.2.1 58 = .ok (.putfield 34, 3) := by decide +kernel
theorem f_8_34 : e_fld 8 34 8 9 12 2 false := ⟨RX8, TX8, 9, rfl, rfl, by decide, rfl, rfl, rfl, iX8, tblG_in (inT2 (List.mem_of_getElem? (i := 34) rfl)) rfl, tyX8_ok, nmX8⟩
theorem d_X8_init_61 : decode mX8_init.2.2.1 61 = .ok (.aload_n 0, 1) := by decide +kernel
theorem d_X8_init_62 : decode mX8_init.2.2.1 62 = .ok (.iconst 0, 1) := by decide +kernel
theorem d_X8_init_63 : decode mX8_init.2.2.1 63 = .ok (.newarray .int, 2) := by decide +kernel
theorem d_X8_init_65 : decode mX8_init.2.2.1 65 = .ok (.putfield 37, 3) := by decide +kernel
theorem f_8_37 : e_fld 8 37 8 10 12 2 false := ⟨RX8, TX8, 10, rfl, rfl, by decide, rfl, rfl, rfl, iX8, tblG_in (inT2 (List.mem_of_getElem? (i := 36) rfl)) rfl, tyX8_ok, nmX8⟩
theorem d_X8_init_68 : decode mX8_init.2.2.1 68 = .ok (.aload_n 0, 1) := by decide +kernel
theorem d_X8_init_69 : decode mX8_init.2.2.1 69 = .ok (.iconst 0, 1) := by decide +kernel
theorem d_X8_init_70 : decode mX8_init.2.2.1 70 = .ok (.newarray .int, 2) := by decide +kernel
theorem d_X8_init_72 : decode mX8_init.2.2.1 72 = .ok (.putfield 40, 3) := by decide +kernel
theorem f_8_40 : e_fld 8 40 8 11 12 2 false := ⟨RX8, TX8, 11, rfl, rfl, by decide, rfl, rfl, rfl, iX8, tblG_in (inT2 (List.mem_of_getElem? (i := 38) rfl)) rfl, tyX8_ok, nmX8⟩
theorem d_X8_init_75 : decode mX8_init.2.2.1 75 = .ok (.return_, 1) := by decide +kernel
theorem d_X1_init_60 : decode mX1_init.2.2.1 60 = .ok (.putfield 33, 3) := by decide +kernel
theorem f_1_33 : e_fld 1 33 1 8 9 2 true := ⟨RX1, TX1, 8, rfl, rfl, by decide, rfl, rfl, rfl, iX1, tblG_in (inT2 (List.mem_of_getElem? (i := 77) rfl)) rfl, tyX1_ok, nmX1⟩
theorem d_X1_init_63 : decode mX1_init.2.2.1 63 = .ok (.aload_n 0, 1) := by decide +kernel
theorem d_X1_init_64 : decode mX1_init.2.2.1 64 = .ok (.iload_n 1, 1) := by decide +kernel
theorem d_X1_init_65 : decode mX1_init.2.2.1 65 = .ok (.putfield 37, 3) := by decide +kernel
theorem f_1_37 : e_fld 1 37 1 0 9 3 true := ⟨RX1, TX1, 0, rfl, rfl, by decide, rfl, rfl, rfl, iX1, tblG_in (inT2 (List.mem_of_getElem? (i := 66) rfl)) rfl, tyX1_ok, nmX1⟩
theorem d_X1_init_68 : decode mX1_init.2.2.1 68 = .ok (.return_, 1) := by decide +kernel
theorem d_X6_init_68 : decode mX6_init.2.2.1 68 = .ok (.putfield 38, 3) := by decide +kernel
theorem f_6_38 : e_fld 6 38 6 0 18 2 true := ⟨RX6, TX6, 0, rfl, rfl, by decide, rfl, rfl, rfl, iX6, tblG_in (inT2 (List.mem_of_getElem? (i := 98) rfl)) rfl, tyX6_ok, nmX6⟩
theorem d_X6_init_71 : decode mX6_init.2.2.1 71 = .ok (.return_, 1) := by decide +kernel
theorem d_X11_init_73 : decode mX11_init.2.2.1 73 = .ok (.putfield 46, 3) := by decide +kernel
theorem f_11_46 : e_fld 11 46 11 7 14 2 true := ⟨RX11, TX11, 7, rfl, rfl, by decide, rfl, rfl, rfl, iX11, tblG_in (inT3 (List.mem_of_getElem? (i := 55) rfl)) rfl, tyX11_ok, nmX11⟩
theorem d_X11_init_76 : decode mX11_init.2.2.1 76 = .ok (.aload_n 0, 1) := by decide +kernel
theorem d_X11_init_77 : decode mX11_init.2.2.1 77 = .ok (.new 41, 3) := by decide +kernel
theorem d_X11_init_80 : decode mX11_init.2.2.1 80 = .ok (.dup, 1) := by decide +kernel
theorem d_X11_init_81 : decode mX11_init.2.2.1 81 = .ok (.iconst 0, 1) := by decide +kernel
theorem d_X11_init_82 : decode mX11_init.2.2.1 82 = .ok (.invokespecial 43, 3) := by decide +kernel
theorem d_X11_init_85 : decode mX11_init.2.2.1 85 = .ok (.putfield 50, 3) := by decide +kernel
theorem f_11_50 : e_fld 11 50 11 8 14 2 true := ⟨RX11, TX11, 8, rfl, rfl, by decide, rfl, rfl, rfl, iX11, tblG_in (inT3 (List.mem_of_getElem? (i := 56) rfl)) rfl, tyX11_ok, nmX11⟩
theorem d_X11_init_88 : decode mX11_init.2.2.1 88 = .ok (.aload_n 0, 1) := by decide +kernel
theorem d_X11_init_89 : decode mX11_init.2.2.1 89 = .ok (.new 53, 3) := by decide +kernel
set_option maxRecDepth 100000 in
theorem iX9 : ∀ w ∈ u_ws RX9 TX9 4, w ∈ tblG := ws_places [549, 551, 553, 555] (by decide +kernel) (by decide +kernel)
theorem ini_9 : Cond.initialized "SipMeter$Turns" ∈ tblG := tblG_in (inT1 (List.mem_of_getElem? (i := 9) rfl)) rfl
theorem n_11_53 : e_new 11 53 9 4 := ⟨RX9, TX9, rfl, iX9, tyX9_ok, by decide +kernel, tblG_in (inT2 (List.mem_of_getElem? (i := 164) rfl)) rfl, tblG_in (inT2 (List.mem_of_getElem? (i := 165) rfl)) rfl, ini_9⟩
theorem d_X11_init_92 : decode mX11_init.2.2.1 92 = .ok (.dup, 1) := by decide +kernel
theorem d_X11_init_93 : decode mX11_init.2.2.1 93 = .ok (.invokespecial 55, 3) := by decide +kernel
def mX9_init : MD := (9, yX9_init, cX9_init, 1, none)
theorem s_11_55 {K : EC} (hN : e_nst K) : e_siteIN K 11 55 mX9_init "SipMeter" := ⟨fun U hU => hN U hU (e_cn 11, 55, ⟨"SipMeter$Turns", "<init>", "()V"⟩, "SipMeter") (List.mem_of_getElem? (i := 3) rfl), tblG_in (inT2 (List.mem_of_getElem? (i := 167) rfl)) rfl, rfl, rfl⟩
theorem ok_X9_init : e_m mX9_init 0 := ⟨tblG_in (inT2 (List.mem_of_getElem? (i := 168) rfl)) rfl, plainFor_of_name (by decide), rfl, ini_9, by decide +kernel, by decide⟩
theorem d_X9_init_0 : decode mX9_init.2.2.1 0 = .ok (.aload_n 0, 1) := by decide +kernel
theorem d_X9_init_1 : decode mX9_init.2.2.1 1 = .ok (.invokespecial 3, 3) := by decide +kernel
theorem ow_9_3 : Cond.methodLink (e_cn 9) 3 objectInit ∈ tblG := tblG_in (inT2 (List.mem_of_getElem? (i := 169) rfl)) rfl
theorem d_X9_init_4 : decode mX9_init.2.2.1 4 = .ok (.aload_n 0, 1) := by decide +kernel
theorem d_X9_init_5 : decode mX9_init.2.2.1 5 = .ok (.sipush 256, 3) := by decide +kernel
theorem d_X9_init_8 : decode mX9_init.2.2.1 8 = .ok (.newarray .long, 2) := by decide +kernel
theorem d_X9_init_10 : decode mX9_init.2.2.1 10 = .ok (.putfield 11, 3) := by decide +kernel
theorem f_9_11 : e_fld 9 11 9 0 4 2 true := ⟨RX9, TX9, 0, rfl, rfl, by decide, rfl, rfl, rfl, iX9, tblG_in (inT2 (List.mem_of_getElem? (i := 170) rfl)) rfl, tyX9_ok, nmX9⟩
theorem d_X9_init_13 : decode mX9_init.2.2.1 13 = .ok (.aload_n 0, 1) := by decide +kernel
theorem d_X9_init_14 : decode mX9_init.2.2.1 14 = .ok (.sipush 256, 3) := by decide +kernel
theorem d_X9_init_17 : decode mX9_init.2.2.1 17 = .ok (.newarray .int, 2) := by decide +kernel
theorem d_X9_init_19 : decode mX9_init.2.2.1 19 = .ok (.putfield 15, 3) := by decide +kernel
theorem f_9_15 : e_fld 9 15 9 1 4 2 true := ⟨RX9, TX9, 1, rfl, rfl, by decide, rfl, rfl, rfl, iX9, tblG_in (inT2 (List.mem_of_getElem? (i := 171) rfl)) rfl, tyX9_ok, nmX9⟩
theorem d_X9_init_22 : decode mX9_init.2.2.1 22 = .ok (.aload_n 0, 1) := by decide +kernel
theorem d_X9_init_23 : decode mX9_init.2.2.1 23 = .ok (.iconst (-1), 1) := by decide +kernel
theorem d_X9_init_24 : decode mX9_init.2.2.1 24 = .ok (.putfield 19, 3) := by decide +kernel
theorem f_9_19 : e_fld 9 19 9 3 4 0 false := ⟨RX9, TX9, 3, rfl, rfl, by decide, rfl, rfl, rfl, iX9, tblG_in (inT2 (List.mem_of_getElem? (i := 173) rfl)) rfl, tyX9_ok, nmX9⟩
theorem d_X9_init_27 : decode mX9_init.2.2.1 27 = .ok (.return_, 1) := by decide +kernel
theorem d_X11_init_96 : decode mX11_init.2.2.1 96 = .ok (.putfield 56, 3) := by decide +kernel
theorem f_11_56 : e_fld 11 56 11 10 14 2 true := ⟨RX11, TX11, 10, rfl, rfl, by decide, rfl, rfl, rfl, iX11, tblG_in (inT3 (List.mem_of_getElem? (i := 58) rfl)) rfl, tyX11_ok, nmX11⟩
theorem d_X11_init_99 : decode mX11_init.2.2.1 99 = .ok (.aload_n 0, 1) := by decide +kernel
theorem d_X11_init_100 : decode mX11_init.2.2.1 100 = .ok (.new 60, 3) := by decide +kernel
set_option maxRecDepth 100000 in
theorem iX10 : ∀ w ∈ u_ws RX10 TX10 7, w ∈ tblG := ws_places [572, 574, 576, 578, 580, 582, 584] (by decide +kernel) (by decide +kernel)
theorem ini_10 : Cond.initialized "SipMeter$Ways" ∈ tblG := tblG_in (inT1 (List.mem_of_getElem? (i := 10) rfl)) rfl
theorem n_11_60 : e_new 11 60 10 7 := ⟨RX10, TX10, rfl, iX10, tyX10_ok, by decide +kernel, tblG_in (inT2 (List.mem_of_getElem? (i := 183) rfl)) rfl, tblG_in (inT2 (List.mem_of_getElem? (i := 184) rfl)) rfl, ini_10⟩
theorem d_X11_init_103 : decode mX11_init.2.2.1 103 = .ok (.dup, 1) := by decide +kernel
theorem d_X11_init_104 : decode mX11_init.2.2.1 104 = .ok (.invokespecial 62, 3) := by decide +kernel
def mX10_init : MD := (10, yX10_init, cX10_init, 1, none)
theorem s_11_62 {K : EC} (hN : e_nst K) : e_siteIN K 11 62 mX10_init "SipMeter" := ⟨fun U hU => hN U hU (e_cn 11, 62, ⟨"SipMeter$Ways", "<init>", "()V"⟩, "SipMeter") (List.mem_of_getElem? (i := 4) rfl), tblG_in (inT2 (List.mem_of_getElem? (i := 186) rfl)) rfl, rfl, rfl⟩
theorem ok_X10_init : e_m mX10_init 0 := ⟨tblG_in (inT2 (List.mem_of_getElem? (i := 187) rfl)) rfl, plainFor_of_name (by decide), rfl, ini_10, by decide +kernel, by decide⟩
theorem d_X10_init_0 : decode mX10_init.2.2.1 0 = .ok (.aload_n 0, 1) := by decide +kernel
theorem d_X10_init_1 : decode mX10_init.2.2.1 1 = .ok (.invokespecial 3, 3) := by decide +kernel
theorem ow_10_3 : Cond.methodLink (e_cn 10) 3 objectInit ∈ tblG := tblG_in (inT2 (List.mem_of_getElem? (i := 188) rfl)) rfl
theorem d_X10_init_4 : decode mX10_init.2.2.1 4 = .ok (.aload_n 0, 1) := by decide +kernel
theorem d_X10_init_5 : decode mX10_init.2.2.1 5 = .ok (.iconst 3, 1) := by decide +kernel
theorem d_X10_init_6 : decode mX10_init.2.2.1 6 = .ok (.newarray .int, 2) := by decide +kernel
theorem d_X10_init_8 : decode mX10_init.2.2.1 8 = .ok (.putfield 9, 3) := by decide +kernel
theorem f_10_9 : e_fld 10 9 10 4 7 2 true := ⟨RX10, TX10, 4, rfl, rfl, by decide, rfl, rfl, rfl, iX10, tblG_in (inT2 (List.mem_of_getElem? (i := 193) rfl)) rfl, tyX10_ok, nmX10⟩
theorem d_X10_init_11 : decode mX10_init.2.2.1 11 = .ok (.aload_n 0, 1) := by decide +kernel
theorem d_X10_init_12 : decode mX10_init.2.2.1 12 = .ok (.iconst 3, 1) := by decide +kernel
theorem d_X10_init_13 : decode mX10_init.2.2.1 13 = .ok (.newarray .int, 2) := by decide +kernel
theorem d_X10_init_15 : decode mX10_init.2.2.1 15 = .ok (.putfield 15, 3) := by decide +kernel
theorem f_10_15 : e_fld 10 15 10 5 7 2 true := ⟨RX10, TX10, 5, rfl, rfl, by decide, rfl, rfl, rfl, iX10, tblG_in (inT2 (List.mem_of_getElem? (i := 195) rfl)) rfl, tyX10_ok, nmX10⟩
theorem d_X10_init_18 : decode mX10_init.2.2.1 18 = .ok (.aload_n 0, 1) := by decide +kernel
theorem d_X10_init_19 : decode mX10_init.2.2.1 19 = .ok (.iconst 3, 1) := by decide +kernel
theorem d_X10_init_20 : decode mX10_init.2.2.1 20 = .ok (.newarray .int, 2) := by decide +kernel
theorem d_X10_init_22 : decode mX10_init.2.2.1 22 = .ok (.putfield 18, 3) := by decide +kernel
theorem f_10_18 : e_fld 10 18 10 6 7 2 true := ⟨RX10, TX10, 6, rfl, rfl, by decide, rfl, rfl, rfl, iX10, tblG_in (inT2 (List.mem_of_getElem? (i := 196) rfl)) rfl, tyX10_ok, nmX10⟩
theorem d_X10_init_25 : decode mX10_init.2.2.1 25 = .ok (.return_, 1) := by decide +kernel
theorem d_X11_init_107 : decode mX11_init.2.2.1 107 = .ok (.putfield 63, 3) := by decide +kernel
theorem f_11_63 : e_fld 11 63 11 11 14 2 true := ⟨RX11, TX11, 11, rfl, rfl, by decide, rfl, rfl, rfl, iX11, tblG_in (inT3 (List.mem_of_getElem? (i := 59) rfl)) rfl, tyX11_ok, nmX11⟩
theorem d_X11_init_110 : decode mX11_init.2.2.1 110 = .ok (.aload_n 0, 1) := by decide +kernel
theorem d_X11_init_111 : decode mX11_init.2.2.1 111 = .ok (.new 67, 3) := by decide +kernel
set_option maxRecDepth 100000 in
theorem iX2 : ∀ w ∈ u_ws RX2 TX2 7, w ∈ tblG := ws_places [603, 605, 607, 609, 611, 613, 615] (by decide +kernel) (by decide +kernel)
theorem ini_2 : Cond.initialized "SipMeter$Fits" ∈ tblG := tblG_in (inT1 (List.mem_of_getElem? (i := 11) rfl)) rfl
theorem n_11_67 : e_new 11 67 2 7 := ⟨RX2, TX2, rfl, iX2, tyX2_ok, by decide +kernel, tblG_in (inT2 (List.mem_of_getElem? (i := 212) rfl)) rfl, tblG_in (inT2 (List.mem_of_getElem? (i := 213) rfl)) rfl, ini_2⟩
theorem d_X11_init_114 : decode mX11_init.2.2.1 114 = .ok (.dup, 1) := by decide +kernel
theorem d_X11_init_115 : decode mX11_init.2.2.1 115 = .ok (.invokespecial 69, 3) := by decide +kernel
def mX2_init : MD := (2, yX2_init, cX2_init, 1, none)
theorem s_11_69 {K : EC} (hN : e_nst K) : e_siteIN K 11 69 mX2_init "SipMeter" := ⟨fun U hU => hN U hU (e_cn 11, 69, ⟨"SipMeter$Fits", "<init>", "()V"⟩, "SipMeter") (List.mem_of_getElem? (i := 5) rfl), tblG_in (inT2 (List.mem_of_getElem? (i := 215) rfl)) rfl, rfl, rfl⟩
theorem ok_X2_init : e_m mX2_init 0 := ⟨tblG_in (inT2 (List.mem_of_getElem? (i := 216) rfl)) rfl, plainFor_of_name (by decide), rfl, ini_2, by decide +kernel, by decide⟩
theorem d_X2_init_0 : decode mX2_init.2.2.1 0 = .ok (.aload_n 0, 1) := by decide +kernel
theorem d_X2_init_1 : decode mX2_init.2.2.1 1 = .ok (.invokespecial 3, 3) := by decide +kernel
theorem ow_2_3 : Cond.methodLink (e_cn 2) 3 objectInit ∈ tblG := tblG_in (inT2 (List.mem_of_getElem? (i := 217) rfl)) rfl
theorem d_X2_init_4 : decode mX2_init.2.2.1 4 = .ok (.aload_n 0, 1) := by decide +kernel
theorem d_X2_init_5 : decode mX2_init.2.2.1 5 = .ok (.iconst 4, 1) := by decide +kernel
theorem d_X2_init_6 : decode mX2_init.2.2.1 6 = .ok (.newarray .int, 2) := by decide +kernel
theorem d_X2_init_8 : decode mX2_init.2.2.1 8 = .ok (.putfield 9, 3) := by decide +kernel
theorem f_2_9 : e_fld 2 9 2 2 7 2 true := ⟨RX2, TX2, 2, rfl, rfl, by decide, rfl, rfl, rfl, iX2, tblG_in (inT2 (List.mem_of_getElem? (i := 222) rfl)) rfl, tyX2_ok, nmX2⟩
theorem d_X2_init_11 : decode mX2_init.2.2.1 11 = .ok (.aload_n 0, 1) := by decide +kernel
theorem d_X2_init_12 : decode mX2_init.2.2.1 12 = .ok (.bipush 12, 2) := by decide +kernel
theorem d_X2_init_14 : decode mX2_init.2.2.1 14 = .ok (.newarray .int, 2) := by decide +kernel
theorem d_X2_init_16 : decode mX2_init.2.2.1 16 = .ok (.putfield 15, 3) := by decide +kernel
theorem f_2_15 : e_fld 2 15 2 3 7 2 true := ⟨RX2, TX2, 3, rfl, rfl, by decide, rfl, rfl, rfl, iX2, tblG_in (inT2 (List.mem_of_getElem? (i := 224) rfl)) rfl, tyX2_ok, nmX2⟩
theorem d_X2_init_19 : decode mX2_init.2.2.1 19 = .ok (.aload_n 0, 1) := by decide +kernel
theorem d_X2_init_20 : decode mX2_init.2.2.1 20 = .ok (.bipush 12, 2) := by decide +kernel
theorem d_X2_init_22 : decode mX2_init.2.2.1 22 = .ok (.newarray .int, 2) := by decide +kernel
theorem d_X2_init_24 : decode mX2_init.2.2.1 24 = .ok (.putfield 18, 3) := by decide +kernel
theorem f_2_18 : e_fld 2 18 2 4 7 2 true := ⟨RX2, TX2, 4, rfl, rfl, by decide, rfl, rfl, rfl, iX2, tblG_in (inT2 (List.mem_of_getElem? (i := 225) rfl)) rfl, tyX2_ok, nmX2⟩
theorem d_X2_init_27 : decode mX2_init.2.2.1 27 = .ok (.aload_n 0, 1) := by decide +kernel
theorem d_X2_init_28 : decode mX2_init.2.2.1 28 = .ok (.sipush 288, 3) := by decide +kernel
theorem d_X2_init_31 : decode mX2_init.2.2.1 31 = .ok (.newarray .int, 2) := by decide +kernel
theorem d_X2_init_33 : decode mX2_init.2.2.1 33 = .ok (.putfield 21, 3) := by decide +kernel
theorem f_2_21 : e_fld 2 21 2 5 7 2 true := ⟨RX2, TX2, 5, rfl, rfl, by decide, rfl, rfl, rfl, iX2, tblG_in (inT2 (List.mem_of_getElem? (i := 226) rfl)) rfl, tyX2_ok, nmX2⟩
theorem d_X2_init_36 : decode mX2_init.2.2.1 36 = .ok (.aload_n 0, 1) := by decide +kernel
theorem d_X2_init_37 : decode mX2_init.2.2.1 37 = .ok (.bipush 12, 2) := by decide +kernel
theorem d_X2_init_39 : decode mX2_init.2.2.1 39 = .ok (.newarray .int, 2) := by decide +kernel
theorem d_X2_init_41 : decode mX2_init.2.2.1 41 = .ok (.putfield 24, 3) := by decide +kernel
theorem f_2_24 : e_fld 2 24 2 6 7 2 true := ⟨RX2, TX2, 6, rfl, rfl, by decide, rfl, rfl, rfl, iX2, tblG_in (inT2 (List.mem_of_getElem? (i := 227) rfl)) rfl, tyX2_ok, nmX2⟩
theorem d_X2_init_44 : decode mX2_init.2.2.1 44 = .ok (.return_, 1) := by decide +kernel
theorem d_X11_init_118 : decode mX11_init.2.2.1 118 = .ok (.putfield 70, 3) := by decide +kernel
theorem f_11_70 : e_fld 11 70 11 12 14 2 true := ⟨RX11, TX11, 12, rfl, rfl, by decide, rfl, rfl, rfl, iX11, tblG_in (inT3 (List.mem_of_getElem? (i := 60) rfl)) rfl, tyX11_ok, nmX11⟩
theorem d_X11_init_121 : decode mX11_init.2.2.1 121 = .ok (.aload_n 0, 1) := by decide +kernel
theorem d_X11_init_122 : decode mX11_init.2.2.1 122 = .ok (.new 74, 3) := by decide +kernel
set_option maxRecDepth 100000 in
theorem iX0 : ∀ w ∈ u_ws RX0 TX0 8, w ∈ tblG := ws_places [635, 637, 639, 641, 643, 645, 647, 649] (by decide +kernel) (by decide +kernel)
theorem ini_0 : Cond.initialized "SipMeter$Asks" ∈ tblG := tblG_in (inT1 (List.mem_of_getElem? (i := 12) rfl)) rfl
theorem n_11_74 : e_new 11 74 0 8 := ⟨RX0, TX0, rfl, iX0, tyX0_ok, by decide +kernel, tblG_in (inT3 (List.mem_of_getElem? (i := 3) rfl)) rfl, tblG_in (inT3 (List.mem_of_getElem? (i := 4) rfl)) rfl, ini_0⟩
theorem d_X11_init_125 : decode mX11_init.2.2.1 125 = .ok (.dup, 1) := by decide +kernel
theorem d_X11_init_126 : decode mX11_init.2.2.1 126 = .ok (.invokespecial 76, 3) := by decide +kernel
def mX0_init : MD := (0, yX0_init, cX0_init, 1, none)
theorem s_11_76 {K : EC} (hN : e_nst K) : e_siteIN K 11 76 mX0_init "SipMeter" := ⟨fun U hU => hN U hU (e_cn 11, 76, ⟨"SipMeter$Asks", "<init>", "()V"⟩, "SipMeter") (List.mem_of_getElem? (i := 6) rfl), tblG_in (inT3 (List.mem_of_getElem? (i := 6) rfl)) rfl, rfl, rfl⟩
theorem ok_X0_init : e_m mX0_init 0 := ⟨tblG_in (inT3 (List.mem_of_getElem? (i := 7) rfl)) rfl, plainFor_of_name (by decide), rfl, ini_0, by decide +kernel, by decide⟩
theorem d_X0_init_0 : decode mX0_init.2.2.1 0 = .ok (.aload_n 0, 1) := by decide +kernel
theorem d_X0_init_1 : decode mX0_init.2.2.1 1 = .ok (.invokespecial 3, 3) := by decide +kernel
theorem ow_0_3 : Cond.methodLink (e_cn 0) 3 objectInit ∈ tblG := tblG_in (inT3 (List.mem_of_getElem? (i := 8) rfl)) rfl
theorem d_X0_init_4 : decode mX0_init.2.2.1 4 = .ok (.aload_n 0, 1) := by decide +kernel
theorem d_X0_init_5 : decode mX0_init.2.2.1 5 = .ok (.bipush 6, 2) := by decide +kernel
theorem d_X0_init_7 : decode mX0_init.2.2.1 7 = .ok (.newarray .int, 2) := by decide +kernel
theorem d_X0_init_9 : decode mX0_init.2.2.1 9 = .ok (.putfield 11, 3) := by decide +kernel
theorem f_0_11 : e_fld 0 11 0 1 8 2 true := ⟨RX0, TX0, 1, rfl, rfl, by decide, rfl, rfl, rfl, iX0, tblG_in (inT3 (List.mem_of_getElem? (i := 11) rfl)) rfl, tyX0_ok, nmX0⟩
theorem d_X0_init_12 : decode mX0_init.2.2.1 12 = .ok (.aload_n 0, 1) := by decide +kernel
theorem d_X0_init_13 : decode mX0_init.2.2.1 13 = .ok (.bipush 6, 2) := by decide +kernel
theorem d_X0_init_15 : decode mX0_init.2.2.1 15 = .ok (.newarray .int, 2) := by decide +kernel
theorem d_X0_init_17 : decode mX0_init.2.2.1 17 = .ok (.putfield 15, 3) := by decide +kernel
theorem f_0_15 : e_fld 0 15 0 2 8 2 true := ⟨RX0, TX0, 2, rfl, rfl, by decide, rfl, rfl, rfl, iX0, tblG_in (inT3 (List.mem_of_getElem? (i := 12) rfl)) rfl, tyX0_ok, nmX0⟩
theorem d_X0_init_20 : decode mX0_init.2.2.1 20 = .ok (.aload_n 0, 1) := by decide +kernel
theorem d_X0_init_21 : decode mX0_init.2.2.1 21 = .ok (.bipush 6, 2) := by decide +kernel
theorem d_X0_init_23 : decode mX0_init.2.2.1 23 = .ok (.newarray .int, 2) := by decide +kernel
theorem d_X0_init_25 : decode mX0_init.2.2.1 25 = .ok (.putfield 18, 3) := by decide +kernel
theorem f_0_18 : e_fld 0 18 0 3 8 2 true := ⟨RX0, TX0, 3, rfl, rfl, by decide, rfl, rfl, rfl, iX0, tblG_in (inT3 (List.mem_of_getElem? (i := 13) rfl)) rfl, tyX0_ok, nmX0⟩
theorem d_X0_init_28 : decode mX0_init.2.2.1 28 = .ok (.aload_n 0, 1) := by decide +kernel
theorem d_X0_init_29 : decode mX0_init.2.2.1 29 = .ok (.bipush 6, 2) := by decide +kernel
theorem d_X0_init_31 : decode mX0_init.2.2.1 31 = .ok (.newarray .int, 2) := by decide +kernel
theorem d_X0_init_33 : decode mX0_init.2.2.1 33 = .ok (.putfield 21, 3) := by decide +kernel
theorem f_0_21 : e_fld 0 21 0 4 8 2 true := ⟨RX0, TX0, 4, rfl, rfl, by decide, rfl, rfl, rfl, iX0, tblG_in (inT3 (List.mem_of_getElem? (i := 14) rfl)) rfl, tyX0_ok, nmX0⟩
theorem d_X0_init_36 : decode mX0_init.2.2.1 36 = .ok (.aload_n 0, 1) := by decide +kernel
theorem d_X0_init_37 : decode mX0_init.2.2.1 37 = .ok (.bipush 6, 2) := by decide +kernel
theorem d_X0_init_39 : decode mX0_init.2.2.1 39 = .ok (.newarray .int, 2) := by decide +kernel
theorem d_X0_init_41 : decode mX0_init.2.2.1 41 = .ok (.putfield 24, 3) := by decide +kernel
theorem f_0_24 : e_fld 0 24 0 5 8 2 true := ⟨RX0, TX0, 5, rfl, rfl, by decide, rfl, rfl, rfl, iX0, tblG_in (inT3 (List.mem_of_getElem? (i := 15) rfl)) rfl, tyX0_ok, nmX0⟩
theorem d_X0_init_44 : decode mX0_init.2.2.1 44 = .ok (.aload_n 0, 1) := by decide +kernel
theorem d_X0_init_45 : decode mX0_init.2.2.1 45 = .ok (.bipush 6, 2) := by decide +kernel
theorem d_X0_init_47 : decode mX0_init.2.2.1 47 = .ok (.newarray .int, 2) := by decide +kernel
theorem d_X0_init_49 : decode mX0_init.2.2.1 49 = .ok (.putfield 27, 3) := by decide +kernel
theorem f_0_27 : e_fld 0 27 0 6 8 2 true := ⟨RX0, TX0, 6, rfl, rfl, by decide, rfl, rfl, rfl, iX0, tblG_in (inT3 (List.mem_of_getElem? (i := 16) rfl)) rfl, tyX0_ok, nmX0⟩
theorem d_X0_init_52 : decode mX0_init.2.2.1 52 = .ok (.return_, 1) := by decide +kernel
theorem d_X11_init_129 : decode mX11_init.2.2.1 129 = .ok (.putfield 77, 3) := by decide +kernel
theorem f_11_77 : e_fld 11 77 11 13 14 2 true := ⟨RX11, TX11, 13, rfl, rfl, by decide, rfl, rfl, rfl, iX11, tblG_in (inT3 (List.mem_of_getElem? (i := 61) rfl)) rfl, tyX11_ok, nmX11⟩
theorem d_X11_init_132 : decode mX11_init.2.2.1 132 = .ok (.aload_n 0, 1) := by decide +kernel
theorem d_X11_init_133 : decode mX11_init.2.2.1 133 = .ok (.getfield 30, 3) := by decide +kernel
theorem d_X11_init_136 : decode mX11_init.2.2.1 136 = .ok (.invokevirtual 81, 3) := by decide +kernel
def mX3_clear : MD := (3, yX3_clear, cX3_clear, 1, none)
theorem sel_X3_clear : Cond.instanceMethod mX3_clear.2.1 ∈ tblG ∧ Cond.selects mX3_clear.2.1.cls mX3_clear.2.1 mX3_clear.2.1 ∈ tblG := ⟨tblG_in (inT3 (List.mem_of_getElem? (i := 38) rfl)) rfl, tblG_in (inT3 (List.mem_of_getElem? (i := 39) rfl)) rfl⟩
theorem s_11_81 : e_siteV 11 81 mX3_clear 3 := ⟨tblG_in (inT3 (List.mem_of_getElem? (i := 37) rfl)) rfl, sel_X3_clear.1, sel_X3_clear.2, rfl⟩
theorem ok_X3_clear : e_m mX3_clear 0 := ⟨tblG_in (inT3 (List.mem_of_getElem? (i := 40) rfl)) rfl, plainFor_of_name (by decide), rfl, ini_3, by decide +kernel, by decide⟩
theorem d_X3_clear_0 : decode mX3_clear.2.2.1 0 = .ok (.aload_n 0, 1) := by decide +kernel
theorem d_X3_clear_1 : decode mX3_clear.2.2.1 1 = .ok (.iconst 1, 1) := by decide +kernel
theorem d_X3_clear_2 : decode mX3_clear.2.2.1 2 = .ok (.putfield 40, 3) := by decide +kernel
theorem f_3_40 : e_fld 3 40 3 0 12 0 false := ⟨RX3, TX3, 0, rfl, rfl, by decide, rfl, rfl, rfl, iX3, tblG_in (inT1 (List.mem_of_getElem? (i := 159) rfl)) rfl, tyX3_ok, nmX3⟩
theorem d_X3_clear_5 : decode mX3_clear.2.2.1 5 = .ok (.aload_n 0, 1) := by decide +kernel
theorem d_X3_clear_6 : decode mX3_clear.2.2.1 6 = .ok (.iconst 1, 1) := by decide +kernel
theorem d_X3_clear_7 : decode mX3_clear.2.2.1 7 = .ok (.putfield 44, 3) := by decide +kernel
theorem f_3_44 : e_fld 3 44 3 1 12 0 false := ⟨RX3, TX3, 1, rfl, rfl, by decide, rfl, rfl, rfl, iX3, tblG_in (inT1 (List.mem_of_getElem? (i := 163) rfl)) rfl, tyX3_ok, nmX3⟩
theorem d_X3_clear_10 : decode mX3_clear.2.2.1 10 = .ok (.aload_n 0, 1) := by decide +kernel
theorem d_X3_clear_11 : decode mX3_clear.2.2.1 11 = .ok (.iconst 1, 1) := by decide +kernel
theorem d_X3_clear_12 : decode mX3_clear.2.2.1 12 = .ok (.putfield 47, 3) := by decide +kernel
theorem f_3_47 : e_fld 3 47 3 2 12 0 false := ⟨RX3, TX3, 2, rfl, rfl, by decide, rfl, rfl, rfl, iX3, tblG_in (inT1 (List.mem_of_getElem? (i := 166) rfl)) rfl, tyX3_ok, nmX3⟩
theorem d_X3_clear_15 : decode mX3_clear.2.2.1 15 = .ok (.aload_n 0, 1) := by decide +kernel
theorem d_X3_clear_16 : decode mX3_clear.2.2.1 16 = .ok (.iconst 0, 1) := by decide +kernel
theorem d_X3_clear_17 : decode mX3_clear.2.2.1 17 = .ok (.putfield 50, 3) := by decide +kernel
theorem f_3_50 : e_fld 3 50 3 3 12 0 false := ⟨RX3, TX3, 3, rfl, rfl, by decide, rfl, rfl, rfl, iX3, tblG_in (inT1 (List.mem_of_getElem? (i := 169) rfl)) rfl, tyX3_ok, nmX3⟩
theorem d_X3_clear_20 : decode mX3_clear.2.2.1 20 = .ok (.aload_n 0, 1) := by decide +kernel
theorem d_X3_clear_21 : decode mX3_clear.2.2.1 21 = .ok (.getfield 11, 3) := by decide +kernel
theorem d_X3_clear_24 : decode mX3_clear.2.2.1 24 = .ok (.iconst 0, 1) := by decide +kernel
theorem d_X3_clear_25 : decode mX3_clear.2.2.1 25 = .ok (.invokestatic 53, 3) := by decide +kernel
theorem s_3_53 : e_siteS 3 53 mJ7_fill_53178 := ⟨tblG_in (inT3 (List.mem_of_getElem? (i := 41) rfl)) rfl, tblG_in (inT3 (List.mem_of_getElem? (i := 42) rfl)) rfl⟩
theorem d_X3_clear_28 : decode mX3_clear.2.2.1 28 = .ok (.aload_n 0, 1) := by decide +kernel
theorem d_X3_clear_29 : decode mX3_clear.2.2.1 29 = .ok (.getfield 15, 3) := by decide +kernel
theorem d_X3_clear_32 : decode mX3_clear.2.2.1 32 = .ok (.iconst 0, 1) := by decide +kernel
theorem d_X3_clear_33 : decode mX3_clear.2.2.1 33 = .ok (.invokestatic 53, 3) := by decide +kernel
theorem d_X3_clear_36 : decode mX3_clear.2.2.1 36 = .ok (.aload_n 0, 1) := by decide +kernel
theorem d_X3_clear_37 : decode mX3_clear.2.2.1 37 = .ok (.getfield 24, 3) := by decide +kernel
theorem d_X3_clear_40 : decode mX3_clear.2.2.1 40 = .ok (.iconst 0, 1) := by decide +kernel
theorem d_X3_clear_41 : decode mX3_clear.2.2.1 41 = .ok (.invokestatic 53, 3) := by decide +kernel
theorem d_X3_clear_44 : decode mX3_clear.2.2.1 44 = .ok (.aload_n 0, 1) := by decide +kernel
theorem d_X3_clear_45 : decode mX3_clear.2.2.1 45 = .ok (.getfield 27, 3) := by decide +kernel
theorem d_X3_clear_48 : decode mX3_clear.2.2.1 48 = .ok (.iconst 0, 1) := by decide +kernel
theorem d_X3_clear_49 : decode mX3_clear.2.2.1 49 = .ok (.invokestatic 53, 3) := by decide +kernel
theorem d_X3_clear_52 : decode mX3_clear.2.2.1 52 = .ok (.aload_n 0, 1) := by decide +kernel
theorem d_X3_clear_53 : decode mX3_clear.2.2.1 53 = .ok (.getfield 30, 3) := by decide +kernel
theorem d_X3_clear_56 : decode mX3_clear.2.2.1 56 = .ok (.iconst 0, 1) := by decide +kernel
theorem d_X3_clear_57 : decode mX3_clear.2.2.1 57 = .ok (.invokestatic 53, 3) := by decide +kernel
theorem d_X3_clear_60 : decode mX3_clear.2.2.1 60 = .ok (.aload_n 0, 1) := by decide +kernel
theorem d_X3_clear_61 : decode mX3_clear.2.2.1 61 = .ok (.getfield 36, 3) := by decide +kernel
theorem d_X3_clear_64 : decode mX3_clear.2.2.1 64 = .ok (.invokevirtual 59, 3) := by decide +kernel
def mX4_clear : MD := (4, yX4_clear, cX4_clear, 1, none)
theorem sel_X4_clear : Cond.instanceMethod mX4_clear.2.1 ∈ tblG ∧ Cond.selects mX4_clear.2.1.cls mX4_clear.2.1 mX4_clear.2.1 ∈ tblG := ⟨tblG_in (inT3 (List.mem_of_getElem? (i := 45) rfl)) rfl, tblG_in (inT3 (List.mem_of_getElem? (i := 46) rfl)) rfl⟩
theorem s_3_59 : e_siteV 3 59 mX4_clear 4 := ⟨tblG_in (inT3 (List.mem_of_getElem? (i := 44) rfl)) rfl, sel_X4_clear.1, sel_X4_clear.2, rfl⟩
theorem ok_X4_clear : e_m mX4_clear 0 := ⟨tblG_in (inT3 (List.mem_of_getElem? (i := 47) rfl)) rfl, plainFor_of_name (by decide), rfl, ini_4, by decide +kernel, by decide⟩
theorem d_X4_clear_0 : decode mX4_clear.2.2.1 0 = .ok (.aload_n 0, 1) := by decide +kernel
theorem d_X4_clear_1 : decode mX4_clear.2.2.1 1 = .ok (.iconst 0, 1) := by decide +kernel
theorem d_X4_clear_2 : decode mX4_clear.2.2.1 2 = .ok (.putfield 45, 3) := by decide +kernel
theorem f_4_45 : e_fld 4 45 4 0 13 0 false := ⟨RX4, TX4, 0, rfl, rfl, by decide, rfl, rfl, rfl, iX4, tblG_in (inT1 (List.mem_of_getElem? (i := 104) rfl)) rfl, tyX4_ok, nmX4⟩
theorem d_X4_clear_5 : decode mX4_clear.2.2.1 5 = .ok (.aload_n 0, 1) := by decide +kernel
theorem d_X4_clear_6 : decode mX4_clear.2.2.1 6 = .ok (.iconst 0, 1) := by decide +kernel
theorem d_X4_clear_7 : decode mX4_clear.2.2.1 7 = .ok (.putfield 49, 3) := by decide +kernel
theorem f_4_49 : e_fld 4 49 4 11 13 0 false := ⟨RX4, TX4, 11, rfl, rfl, by decide, rfl, rfl, rfl, iX4, tblG_in (inT1 (List.mem_of_getElem? (i := 130) rfl)) rfl, tyX4_ok, nmX4⟩
theorem d_X4_clear_10 : decode mX4_clear.2.2.1 10 = .ok (.return_, 1) := by decide +kernel
theorem d_X3_clear_67 : decode mX3_clear.2.2.1 67 = .ok (.return_, 1) := by decide +kernel
theorem d_X11_init_139 : decode mX11_init.2.2.1 139 = .ok (.aload_n 0, 1) := by decide +kernel
theorem d_X11_init_140 : decode mX11_init.2.2.1 140 = .ok (.getfield 34, 3) := by decide +kernel
theorem d_X11_init_143 : decode mX11_init.2.2.1 143 = .ok (.invokevirtual 81, 3) := by decide +kernel
theorem d_X11_init_146 : decode mX11_init.2.2.1 146 = .ok (.return_, 1) := by decide +kernel
set_option maxRecDepth 100000 in
theorem iX12 : ∀ w ∈ u_ws RX12 TX12 121, w ∈ tblG := ws_places [1647, 1649, 1651, 1653, 1655, 1657, 1659, 1661, 1663, 1665, 1667, 1669, 1671, 1673, 1675, 1677, 1679, 1681, 1683, 1685, 1687, 1689, 1691, 1693, 1695, 1697, 1699, 1701, 1703, 1705, 1707, 1709, 1711, 1713, 1715, 1717, 1719, 1721, 1723, 1725, 1727, 1729, 1731, 1733, 1735, 1737, 1739, 1741, 1743, 1745, 1747, 1749, 1751, 1753, 1755, 1757, 1759, 1761, 1763, 1765, 1767, 1769, 1771, 1773, 1775, 1777, 1779, 1781, 1783, 1785, 1787, 1789, 1791, 1793, 1795, 1797, 1799, 1801, 1803, 1805, 1807, 1809, 1811, 1813, 1815, 1817, 1819, 1821, 1823, 1825, 1827, 1829, 1831, 1833, 1835, 1837, 1839, 1841, 1843, 1845, 1847, 1849, 1851, 1853, 1855, 1857, 1859, 1861, 1863, 1865, 1867, 1869, 1871, 1873, 1875, 1877, 1879, 1881, 1883, 1885, 1887] (by decide +kernel) (by decide +kernel)
theorem ini_12 : Cond.initialized "SipMeterModel" ∈ tblG := tblG_in (inT1 (List.mem_of_getElem? (i := 14) rfl)) rfl
theorem n_13_10 : e_new 13 10 12 121 := ⟨RX12, TX12, rfl, iX12, tyX12_ok, by decide +kernel, tblG_in (inT6 (List.mem_of_getElem? (i := 185) rfl)) rfl, tblG_in (inT6 (List.mem_of_getElem? (i := 186) rfl)) rfl, ini_12⟩
def mX12_init : MD := (12, yX12_init, cX12_init, 1, none)
theorem s_13_12 : e_siteI 13 12 mX12_init := ⟨tblG_in (inT6 (List.mem_of_getElem? (i := 187) rfl)) rfl, tblG_in (inT6 (List.mem_of_getElem? (i := 188) rfl)) rfl, rfl, rfl⟩
theorem ok_X12_init : e_m mX12_init 0 := ⟨tblG_in (inT6 (List.mem_of_getElem? (i := 189) rfl)) rfl, plainFor_of_name (by decide), rfl, ini_12, by decide +kernel, by decide⟩
theorem ow_12_1 : Cond.methodLink (e_cn 12) 1 objectInit ∈ tblG := tblG_in (inT6 (List.mem_of_getElem? (i := 190) rfl)) rfl
theorem f_12_7 : e_fld 12 7 12 0 121 2 true := ⟨RX12, TX12, 0, rfl, rfl, by decide, rfl, rfl, rfl, iX12, tblG_in (inT6 (List.mem_of_getElem? (i := 191) rfl)) rfl, tyX12_ok, nmX12⟩
theorem f_12_13 : e_fld 12 13 12 1 121 0 false := ⟨RX12, TX12, 1, rfl, rfl, by decide, rfl, rfl, rfl, iX12, tblG_in (inT6 (List.mem_of_getElem? (i := 192) rfl)) rfl, tyX12_ok, nmX12⟩
theorem f_12_17 : e_fld 12 17 12 2 121 0 false := ⟨RX12, TX12, 2, rfl, rfl, by decide, rfl, rfl, rfl, iX12, tblG_in (inT6 (List.mem_of_getElem? (i := 193) rfl)) rfl, tyX12_ok, nmX12⟩
theorem f_12_20 : e_fld 12 20 12 3 121 0 false := ⟨RX12, TX12, 3, rfl, rfl, by decide, rfl, rfl, rfl, iX12, tblG_in (inT6 (List.mem_of_getElem? (i := 194) rfl)) rfl, tyX12_ok, nmX12⟩
theorem f_12_23 : e_fld 12 23 12 4 121 0 false := ⟨RX12, TX12, 4, rfl, rfl, by decide, rfl, rfl, rfl, iX12, tblG_in (inT6 (List.mem_of_getElem? (i := 195) rfl)) rfl, tyX12_ok, nmX12⟩
theorem f_12_26 : e_fld 12 26 12 5 121 0 false := ⟨RX12, TX12, 5, rfl, rfl, by decide, rfl, rfl, rfl, iX12, tblG_in (inT6 (List.mem_of_getElem? (i := 196) rfl)) rfl, tyX12_ok, nmX12⟩
theorem f_12_29 : e_fld 12 29 12 6 121 0 false := ⟨RX12, TX12, 6, rfl, rfl, by decide, rfl, rfl, rfl, iX12, tblG_in (inT6 (List.mem_of_getElem? (i := 197) rfl)) rfl, tyX12_ok, nmX12⟩
theorem f_12_32 : e_fld 12 32 12 7 121 1 false := ⟨RX12, TX12, 7, rfl, rfl, by decide, rfl, rfl, rfl, iX12, tblG_in (inT6 (List.mem_of_getElem? (i := 198) rfl)) rfl, tyX12_ok, nmX12⟩
theorem f_12_36 : e_fld 12 36 12 8 121 0 false := ⟨RX12, TX12, 8, rfl, rfl, by decide, rfl, rfl, rfl, iX12, tblG_in (inT6 (List.mem_of_getElem? (i := 199) rfl)) rfl, tyX12_ok, nmX12⟩
theorem f_12_39 : e_fld 12 39 12 9 121 0 false := ⟨RX12, TX12, 9, rfl, rfl, by decide, rfl, rfl, rfl, iX12, tblG_in (inT6 (List.mem_of_getElem? (i := 200) rfl)) rfl, tyX12_ok, nmX12⟩
theorem f_12_42 : e_fld 12 42 12 10 121 0 false := ⟨RX12, TX12, 10, rfl, rfl, by decide, rfl, rfl, rfl, iX12, tblG_in (inT6 (List.mem_of_getElem? (i := 201) rfl)) rfl, tyX12_ok, nmX12⟩
theorem f_12_45 : e_fld 12 45 12 11 121 0 false := ⟨RX12, TX12, 11, rfl, rfl, by decide, rfl, rfl, rfl, iX12, tblG_in (inT6 (List.mem_of_getElem? (i := 202) rfl)) rfl, tyX12_ok, nmX12⟩
theorem f_12_48 : e_fld 12 48 12 12 121 0 false := ⟨RX12, TX12, 12, rfl, rfl, by decide, rfl, rfl, rfl, iX12, tblG_in (inT6 (List.mem_of_getElem? (i := 203) rfl)) rfl, tyX12_ok, nmX12⟩
theorem f_12_51 : e_fld 12 51 12 13 121 2 true := ⟨RX12, TX12, 13, rfl, rfl, by decide, rfl, rfl, rfl, iX12, tblG_in (inT6 (List.mem_of_getElem? (i := 204) rfl)) rfl, tyX12_ok, nmX12⟩
theorem f_12_54 : e_fld 12 54 12 14 121 2 true := ⟨RX12, TX12, 14, rfl, rfl, by decide, rfl, rfl, rfl, iX12, tblG_in (inT6 (List.mem_of_getElem? (i := 205) rfl)) rfl, tyX12_ok, nmX12⟩
theorem f_12_57 : e_fld 12 57 12 15 121 2 true := ⟨RX12, TX12, 15, rfl, rfl, by decide, rfl, rfl, rfl, iX12, tblG_in (inT6 (List.mem_of_getElem? (i := 206) rfl)) rfl, tyX12_ok, nmX12⟩
theorem f_12_60 : e_fld 12 60 12 16 121 2 true := ⟨RX12, TX12, 16, rfl, rfl, by decide, rfl, rfl, rfl, iX12, tblG_in (inT6 (List.mem_of_getElem? (i := 207) rfl)) rfl, tyX12_ok, nmX12⟩
theorem f_12_63 : e_fld 12 63 12 17 121 2 true := ⟨RX12, TX12, 17, rfl, rfl, by decide, rfl, rfl, rfl, iX12, tblG_in (inT6 (List.mem_of_getElem? (i := 208) rfl)) rfl, tyX12_ok, nmX12⟩
theorem f_12_66 : e_fld 12 66 12 18 121 2 true := ⟨RX12, TX12, 18, rfl, rfl, by decide, rfl, rfl, rfl, iX12, tblG_in (inT6 (List.mem_of_getElem? (i := 209) rfl)) rfl, tyX12_ok, nmX12⟩
theorem f_12_69 : e_fld 12 69 12 19 121 2 true := ⟨RX12, TX12, 19, rfl, rfl, by decide, rfl, rfl, rfl, iX12, tblG_in (inT6 (List.mem_of_getElem? (i := 210) rfl)) rfl, tyX12_ok, nmX12⟩
theorem f_12_72 : e_fld 12 72 12 20 121 2 true := ⟨RX12, TX12, 20, rfl, rfl, by decide, rfl, rfl, rfl, iX12, tblG_in (inT6 (List.mem_of_getElem? (i := 211) rfl)) rfl, tyX12_ok, nmX12⟩
theorem f_12_75 : e_fld 12 75 12 21 121 2 true := ⟨RX12, TX12, 21, rfl, rfl, by decide, rfl, rfl, rfl, iX12, tblG_in (inT6 (List.mem_of_getElem? (i := 212) rfl)) rfl, tyX12_ok, nmX12⟩
theorem f_12_79 : e_fld 12 79 12 22 121 2 true := ⟨RX12, TX12, 22, rfl, rfl, by decide, rfl, rfl, rfl, iX12, tblG_in (inT6 (List.mem_of_getElem? (i := 213) rfl)) rfl, tyX12_ok, nmX12⟩
theorem f_12_82 : e_fld 12 82 12 23 121 2 true := ⟨RX12, TX12, 23, rfl, rfl, by decide, rfl, rfl, rfl, iX12, tblG_in (inT6 (List.mem_of_getElem? (i := 214) rfl)) rfl, tyX12_ok, nmX12⟩
theorem f_12_85 : e_fld 12 85 12 24 121 2 true := ⟨RX12, TX12, 24, rfl, rfl, by decide, rfl, rfl, rfl, iX12, tblG_in (inT6 (List.mem_of_getElem? (i := 215) rfl)) rfl, tyX12_ok, nmX12⟩
theorem f_12_88 : e_fld 12 88 12 25 121 2 true := ⟨RX12, TX12, 25, rfl, rfl, by decide, rfl, rfl, rfl, iX12, tblG_in (inT6 (List.mem_of_getElem? (i := 216) rfl)) rfl, tyX12_ok, nmX12⟩
theorem f_12_91 : e_fld 12 91 12 26 121 2 true := ⟨RX12, TX12, 26, rfl, rfl, by decide, rfl, rfl, rfl, iX12, tblG_in (inT6 (List.mem_of_getElem? (i := 217) rfl)) rfl, tyX12_ok, nmX12⟩
theorem f_12_94 : e_fld 12 94 12 27 121 2 true := ⟨RX12, TX12, 27, rfl, rfl, by decide, rfl, rfl, rfl, iX12, tblG_in (inT6 (List.mem_of_getElem? (i := 218) rfl)) rfl, tyX12_ok, nmX12⟩
theorem f_12_97 : e_fld 12 97 12 28 121 2 true := ⟨RX12, TX12, 28, rfl, rfl, by decide, rfl, rfl, rfl, iX12, tblG_in (inT6 (List.mem_of_getElem? (i := 219) rfl)) rfl, tyX12_ok, nmX12⟩
theorem f_12_100 : e_fld 12 100 12 29 121 2 true := ⟨RX12, TX12, 29, rfl, rfl, by decide, rfl, rfl, rfl, iX12, tblG_in (inT6 (List.mem_of_getElem? (i := 220) rfl)) rfl, tyX12_ok, nmX12⟩
theorem f_12_103 : e_fld 12 103 12 30 121 2 true := ⟨RX12, TX12, 30, rfl, rfl, by decide, rfl, rfl, rfl, iX12, tblG_in (inT6 (List.mem_of_getElem? (i := 221) rfl)) rfl, tyX12_ok, nmX12⟩
theorem f_12_106 : e_fld 12 106 12 31 121 2 true := ⟨RX12, TX12, 31, rfl, rfl, by decide, rfl, rfl, rfl, iX12, tblG_in (inT6 (List.mem_of_getElem? (i := 222) rfl)) rfl, tyX12_ok, nmX12⟩
theorem f_12_109 : e_fld 12 109 12 32 121 2 true := ⟨RX12, TX12, 32, rfl, rfl, by decide, rfl, rfl, rfl, iX12, tblG_in (inT6 (List.mem_of_getElem? (i := 223) rfl)) rfl, tyX12_ok, nmX12⟩
theorem f_12_112 : e_fld 12 112 12 33 121 2 true := ⟨RX12, TX12, 33, rfl, rfl, by decide, rfl, rfl, rfl, iX12, tblG_in (inT6 (List.mem_of_getElem? (i := 224) rfl)) rfl, tyX12_ok, nmX12⟩
theorem f_12_115 : e_fld 12 115 12 34 121 2 true := ⟨RX12, TX12, 34, rfl, rfl, by decide, rfl, rfl, rfl, iX12, tblG_in (inT6 (List.mem_of_getElem? (i := 225) rfl)) rfl, tyX12_ok, nmX12⟩
theorem f_12_118 : e_fld 12 118 12 35 121 2 true := ⟨RX12, TX12, 35, rfl, rfl, by decide, rfl, rfl, rfl, iX12, tblG_in (inT6 (List.mem_of_getElem? (i := 226) rfl)) rfl, tyX12_ok, nmX12⟩
theorem f_12_121 : e_fld 12 121 12 36 121 0 false := ⟨RX12, TX12, 36, rfl, rfl, by decide, rfl, rfl, rfl, iX12, tblG_in (inT6 (List.mem_of_getElem? (i := 227) rfl)) rfl, tyX12_ok, nmX12⟩
theorem f_12_124 : e_fld 12 124 12 37 121 0 false := ⟨RX12, TX12, 37, rfl, rfl, by decide, rfl, rfl, rfl, iX12, tblG_in (inT6 (List.mem_of_getElem? (i := 228) rfl)) rfl, tyX12_ok, nmX12⟩
theorem f_12_127 : e_fld 12 127 12 38 121 2 true := ⟨RX12, TX12, 38, rfl, rfl, by decide, rfl, rfl, rfl, iX12, tblG_in (inT6 (List.mem_of_getElem? (i := 229) rfl)) rfl, tyX12_ok, nmX12⟩
theorem f_12_130 : e_fld 12 130 12 39 121 2 true := ⟨RX12, TX12, 39, rfl, rfl, by decide, rfl, rfl, rfl, iX12, tblG_in (inT6 (List.mem_of_getElem? (i := 230) rfl)) rfl, tyX12_ok, nmX12⟩
theorem aw_boolean : Cond.arrayClass .boolean ∈ tblG := tblG_in (inT8 (List.mem_of_getElem? (i := 75) rfl)) rfl
theorem f_12_133 : e_fld 12 133 12 40 121 2 true := ⟨RX12, TX12, 40, rfl, rfl, by decide, rfl, rfl, rfl, iX12, tblG_in (inT6 (List.mem_of_getElem? (i := 231) rfl)) rfl, tyX12_ok, nmX12⟩
theorem f_12_137 : e_fld 12 137 12 41 121 2 true := ⟨RX12, TX12, 41, rfl, rfl, by decide, rfl, rfl, rfl, iX12, tblG_in (inT6 (List.mem_of_getElem? (i := 232) rfl)) rfl, tyX12_ok, nmX12⟩
theorem f_12_140 : e_fld 12 140 12 42 121 2 true := ⟨RX12, TX12, 42, rfl, rfl, by decide, rfl, rfl, rfl, iX12, tblG_in (inT6 (List.mem_of_getElem? (i := 233) rfl)) rfl, tyX12_ok, nmX12⟩
theorem f_12_143 : e_fld 12 143 12 43 121 0 false := ⟨RX12, TX12, 43, rfl, rfl, by decide, rfl, rfl, rfl, iX12, tblG_in (inT6 (List.mem_of_getElem? (i := 234) rfl)) rfl, tyX12_ok, nmX12⟩
theorem f_12_146 : e_fld 12 146 12 44 121 0 false := ⟨RX12, TX12, 44, rfl, rfl, by decide, rfl, rfl, rfl, iX12, tblG_in (inT6 (List.mem_of_getElem? (i := 235) rfl)) rfl, tyX12_ok, nmX12⟩
theorem f_12_149 : e_fld 12 149 12 45 121 2 true := ⟨RX12, TX12, 45, rfl, rfl, by decide, rfl, rfl, rfl, iX12, tblG_in (inT6 (List.mem_of_getElem? (i := 236) rfl)) rfl, tyX12_ok, nmX12⟩
theorem f_12_152 : e_fld 12 152 12 46 121 0 false := ⟨RX12, TX12, 46, rfl, rfl, by decide, rfl, rfl, rfl, iX12, tblG_in (inT6 (List.mem_of_getElem? (i := 237) rfl)) rfl, tyX12_ok, nmX12⟩
theorem f_12_155 : e_fld 12 155 12 47 121 3 false := ⟨RX12, TX12, 47, rfl, rfl, by decide, rfl, rfl, rfl, iX12, tblG_in (inT6 (List.mem_of_getElem? (i := 238) rfl)) rfl, tyX12_ok, nmX12⟩
theorem f_12_159 : e_fld 12 159 12 48 121 2 true := ⟨RX12, TX12, 48, rfl, rfl, by decide, rfl, rfl, rfl, iX12, tblG_in (inT6 (List.mem_of_getElem? (i := 239) rfl)) rfl, tyX12_ok, nmX12⟩
theorem f_12_162 : e_fld 12 162 12 49 121 2 true := ⟨RX12, TX12, 49, rfl, rfl, by decide, rfl, rfl, rfl, iX12, tblG_in (inT7 (List.mem_of_getElem? (i := 0) rfl)) rfl, tyX12_ok, nmX12⟩
theorem f_12_165 : e_fld 12 165 12 50 121 0 false := ⟨RX12, TX12, 50, rfl, rfl, by decide, rfl, rfl, rfl, iX12, tblG_in (inT7 (List.mem_of_getElem? (i := 1) rfl)) rfl, tyX12_ok, nmX12⟩
theorem f_12_168 : e_fld 12 168 12 51 121 2 true := ⟨RX12, TX12, 51, rfl, rfl, by decide, rfl, rfl, rfl, iX12, tblG_in (inT7 (List.mem_of_getElem? (i := 2) rfl)) rfl, tyX12_ok, nmX12⟩
theorem f_12_171 : e_fld 12 171 12 52 121 2 true := ⟨RX12, TX12, 52, rfl, rfl, by decide, rfl, rfl, rfl, iX12, tblG_in (inT7 (List.mem_of_getElem? (i := 3) rfl)) rfl, tyX12_ok, nmX12⟩
theorem f_12_174 : e_fld 12 174 12 53 121 2 true := ⟨RX12, TX12, 53, rfl, rfl, by decide, rfl, rfl, rfl, iX12, tblG_in (inT7 (List.mem_of_getElem? (i := 4) rfl)) rfl, tyX12_ok, nmX12⟩
theorem f_12_177 : e_fld 12 177 12 54 121 2 true := ⟨RX12, TX12, 54, rfl, rfl, by decide, rfl, rfl, rfl, iX12, tblG_in (inT7 (List.mem_of_getElem? (i := 5) rfl)) rfl, tyX12_ok, nmX12⟩
theorem f_12_180 : e_fld 12 180 12 55 121 2 true := ⟨RX12, TX12, 55, rfl, rfl, by decide, rfl, rfl, rfl, iX12, tblG_in (inT7 (List.mem_of_getElem? (i := 6) rfl)) rfl, tyX12_ok, nmX12⟩
theorem f_12_183 : e_fld 12 183 12 56 121 2 true := ⟨RX12, TX12, 56, rfl, rfl, by decide, rfl, rfl, rfl, iX12, tblG_in (inT7 (List.mem_of_getElem? (i := 7) rfl)) rfl, tyX12_ok, nmX12⟩
theorem f_12_186 : e_fld 12 186 12 57 121 2 true := ⟨RX12, TX12, 57, rfl, rfl, by decide, rfl, rfl, rfl, iX12, tblG_in (inT7 (List.mem_of_getElem? (i := 8) rfl)) rfl, tyX12_ok, nmX12⟩
theorem f_12_189 : e_fld 12 189 12 58 121 2 true := ⟨RX12, TX12, 58, rfl, rfl, by decide, rfl, rfl, rfl, iX12, tblG_in (inT7 (List.mem_of_getElem? (i := 9) rfl)) rfl, tyX12_ok, nmX12⟩
theorem f_12_192 : e_fld 12 192 12 59 121 0 false := ⟨RX12, TX12, 59, rfl, rfl, by decide, rfl, rfl, rfl, iX12, tblG_in (inT7 (List.mem_of_getElem? (i := 10) rfl)) rfl, tyX12_ok, nmX12⟩
theorem f_12_195 : e_fld 12 195 12 60 121 0 false := ⟨RX12, TX12, 60, rfl, rfl, by decide, rfl, rfl, rfl, iX12, tblG_in (inT7 (List.mem_of_getElem? (i := 11) rfl)) rfl, tyX12_ok, nmX12⟩
theorem f_12_198 : e_fld 12 198 12 61 121 0 false := ⟨RX12, TX12, 61, rfl, rfl, by decide, rfl, rfl, rfl, iX12, tblG_in (inT7 (List.mem_of_getElem? (i := 12) rfl)) rfl, tyX12_ok, nmX12⟩
theorem f_12_201 : e_fld 12 201 12 62 121 0 false := ⟨RX12, TX12, 62, rfl, rfl, by decide, rfl, rfl, rfl, iX12, tblG_in (inT7 (List.mem_of_getElem? (i := 13) rfl)) rfl, tyX12_ok, nmX12⟩
theorem f_12_204 : e_fld 12 204 12 63 121 1 false := ⟨RX12, TX12, 63, rfl, rfl, by decide, rfl, rfl, rfl, iX12, tblG_in (inT7 (List.mem_of_getElem? (i := 14) rfl)) rfl, tyX12_ok, nmX12⟩
theorem f_12_207 : e_fld 12 207 12 64 121 1 false := ⟨RX12, TX12, 64, rfl, rfl, by decide, rfl, rfl, rfl, iX12, tblG_in (inT7 (List.mem_of_getElem? (i := 15) rfl)) rfl, tyX12_ok, nmX12⟩
theorem f_12_210 : e_fld 12 210 12 65 121 0 false := ⟨RX12, TX12, 65, rfl, rfl, by decide, rfl, rfl, rfl, iX12, tblG_in (inT7 (List.mem_of_getElem? (i := 16) rfl)) rfl, tyX12_ok, nmX12⟩
theorem f_12_213 : e_fld 12 213 12 66 121 0 false := ⟨RX12, TX12, 66, rfl, rfl, by decide, rfl, rfl, rfl, iX12, tblG_in (inT7 (List.mem_of_getElem? (i := 17) rfl)) rfl, tyX12_ok, nmX12⟩
theorem f_12_216 : e_fld 12 216 12 67 121 0 false := ⟨RX12, TX12, 67, rfl, rfl, by decide, rfl, rfl, rfl, iX12, tblG_in (inT7 (List.mem_of_getElem? (i := 18) rfl)) rfl, tyX12_ok, nmX12⟩
theorem f_12_219 : e_fld 12 219 12 68 121 0 false := ⟨RX12, TX12, 68, rfl, rfl, by decide, rfl, rfl, rfl, iX12, tblG_in (inT7 (List.mem_of_getElem? (i := 19) rfl)) rfl, tyX12_ok, nmX12⟩
theorem f_12_222 : e_fld 12 222 12 69 121 2 true := ⟨RX12, TX12, 69, rfl, rfl, by decide, rfl, rfl, rfl, iX12, tblG_in (inT7 (List.mem_of_getElem? (i := 20) rfl)) rfl, tyX12_ok, nmX12⟩
theorem f_12_225 : e_fld 12 225 12 70 121 3 false := ⟨RX12, TX12, 70, rfl, rfl, by decide, rfl, rfl, rfl, iX12, tblG_in (inT7 (List.mem_of_getElem? (i := 21) rfl)) rfl, tyX12_ok, nmX12⟩
theorem f_12_228 : e_fld 12 228 12 71 121 2 true := ⟨RX12, TX12, 71, rfl, rfl, by decide, rfl, rfl, rfl, iX12, tblG_in (inT7 (List.mem_of_getElem? (i := 22) rfl)) rfl, tyX12_ok, nmX12⟩
theorem f_12_231 : e_fld 12 231 12 72 121 2 true := ⟨RX12, TX12, 72, rfl, rfl, by decide, rfl, rfl, rfl, iX12, tblG_in (inT7 (List.mem_of_getElem? (i := 23) rfl)) rfl, tyX12_ok, nmX12⟩
theorem f_12_234 : e_fld 12 234 12 73 121 2 true := ⟨RX12, TX12, 73, rfl, rfl, by decide, rfl, rfl, rfl, iX12, tblG_in (inT7 (List.mem_of_getElem? (i := 24) rfl)) rfl, tyX12_ok, nmX12⟩
theorem f_12_237 : e_fld 12 237 12 74 121 2 true := ⟨RX12, TX12, 74, rfl, rfl, by decide, rfl, rfl, rfl, iX12, tblG_in (inT7 (List.mem_of_getElem? (i := 25) rfl)) rfl, tyX12_ok, nmX12⟩
theorem f_12_240 : e_fld 12 240 12 75 121 0 false := ⟨RX12, TX12, 75, rfl, rfl, by decide, rfl, rfl, rfl, iX12, tblG_in (inT7 (List.mem_of_getElem? (i := 26) rfl)) rfl, tyX12_ok, nmX12⟩
theorem f_12_243 : e_fld 12 243 12 76 121 2 true := ⟨RX12, TX12, 76, rfl, rfl, by decide, rfl, rfl, rfl, iX12, tblG_in (inT7 (List.mem_of_getElem? (i := 27) rfl)) rfl, tyX12_ok, nmX12⟩
theorem f_12_246 : e_fld 12 246 12 77 121 2 true := ⟨RX12, TX12, 77, rfl, rfl, by decide, rfl, rfl, rfl, iX12, tblG_in (inT7 (List.mem_of_getElem? (i := 28) rfl)) rfl, tyX12_ok, nmX12⟩
theorem f_12_249 : e_fld 12 249 12 78 121 2 true := ⟨RX12, TX12, 78, rfl, rfl, by decide, rfl, rfl, rfl, iX12, tblG_in (inT7 (List.mem_of_getElem? (i := 29) rfl)) rfl, tyX12_ok, nmX12⟩
theorem f_12_252 : e_fld 12 252 12 79 121 0 false := ⟨RX12, TX12, 79, rfl, rfl, by decide, rfl, rfl, rfl, iX12, tblG_in (inT7 (List.mem_of_getElem? (i := 30) rfl)) rfl, tyX12_ok, nmX12⟩
theorem f_12_255 : e_fld 12 255 12 80 121 2 true := ⟨RX12, TX12, 80, rfl, rfl, by decide, rfl, rfl, rfl, iX12, tblG_in (inT7 (List.mem_of_getElem? (i := 31) rfl)) rfl, tyX12_ok, nmX12⟩
theorem f_12_258 : e_fld 12 258 12 81 121 2 true := ⟨RX12, TX12, 81, rfl, rfl, by decide, rfl, rfl, rfl, iX12, tblG_in (inT7 (List.mem_of_getElem? (i := 32) rfl)) rfl, tyX12_ok, nmX12⟩
theorem f_12_261 : e_fld 12 261 12 82 121 2 true := ⟨RX12, TX12, 82, rfl, rfl, by decide, rfl, rfl, rfl, iX12, tblG_in (inT7 (List.mem_of_getElem? (i := 33) rfl)) rfl, tyX12_ok, nmX12⟩
theorem f_12_264 : e_fld 12 264 12 83 121 2 true := ⟨RX12, TX12, 83, rfl, rfl, by decide, rfl, rfl, rfl, iX12, tblG_in (inT7 (List.mem_of_getElem? (i := 34) rfl)) rfl, tyX12_ok, nmX12⟩
theorem f_12_267 : e_fld 12 267 12 84 121 0 false := ⟨RX12, TX12, 84, rfl, rfl, by decide, rfl, rfl, rfl, iX12, tblG_in (inT7 (List.mem_of_getElem? (i := 35) rfl)) rfl, tyX12_ok, nmX12⟩
theorem f_12_270 : e_fld 12 270 12 85 121 3 false := ⟨RX12, TX12, 85, rfl, rfl, by decide, rfl, rfl, rfl, iX12, tblG_in (inT7 (List.mem_of_getElem? (i := 36) rfl)) rfl, tyX12_ok, nmX12⟩
theorem f_12_273 : e_fld 12 273 12 86 121 0 false := ⟨RX12, TX12, 86, rfl, rfl, by decide, rfl, rfl, rfl, iX12, tblG_in (inT7 (List.mem_of_getElem? (i := 37) rfl)) rfl, tyX12_ok, nmX12⟩
theorem f_12_276 : e_fld 12 276 12 87 121 1 false := ⟨RX12, TX12, 87, rfl, rfl, by decide, rfl, rfl, rfl, iX12, tblG_in (inT7 (List.mem_of_getElem? (i := 38) rfl)) rfl, tyX12_ok, nmX12⟩
theorem f_12_279 : e_fld 12 279 12 88 121 0 false := ⟨RX12, TX12, 88, rfl, rfl, by decide, rfl, rfl, rfl, iX12, tblG_in (inT7 (List.mem_of_getElem? (i := 39) rfl)) rfl, tyX12_ok, nmX12⟩
theorem f_12_282 : e_fld 12 282 12 89 121 0 false := ⟨RX12, TX12, 89, rfl, rfl, by decide, rfl, rfl, rfl, iX12, tblG_in (inT7 (List.mem_of_getElem? (i := 40) rfl)) rfl, tyX12_ok, nmX12⟩
theorem f_12_285 : e_fld 12 285 12 90 121 0 false := ⟨RX12, TX12, 90, rfl, rfl, by decide, rfl, rfl, rfl, iX12, tblG_in (inT7 (List.mem_of_getElem? (i := 41) rfl)) rfl, tyX12_ok, nmX12⟩
theorem f_12_288 : e_fld 12 288 12 91 121 0 false := ⟨RX12, TX12, 91, rfl, rfl, by decide, rfl, rfl, rfl, iX12, tblG_in (inT7 (List.mem_of_getElem? (i := 42) rfl)) rfl, tyX12_ok, nmX12⟩
theorem f_12_291 : e_fld 12 291 12 92 121 2 true := ⟨RX12, TX12, 92, rfl, rfl, by decide, rfl, rfl, rfl, iX12, tblG_in (inT7 (List.mem_of_getElem? (i := 43) rfl)) rfl, tyX12_ok, nmX12⟩
theorem f_12_294 : e_fld 12 294 12 93 121 2 true := ⟨RX12, TX12, 93, rfl, rfl, by decide, rfl, rfl, rfl, iX12, tblG_in (inT7 (List.mem_of_getElem? (i := 44) rfl)) rfl, tyX12_ok, nmX12⟩
theorem f_12_297 : e_fld 12 297 12 94 121 2 true := ⟨RX12, TX12, 94, rfl, rfl, by decide, rfl, rfl, rfl, iX12, tblG_in (inT7 (List.mem_of_getElem? (i := 45) rfl)) rfl, tyX12_ok, nmX12⟩
theorem f_12_300 : e_fld 12 300 12 95 121 0 false := ⟨RX12, TX12, 95, rfl, rfl, by decide, rfl, rfl, rfl, iX12, tblG_in (inT7 (List.mem_of_getElem? (i := 46) rfl)) rfl, tyX12_ok, nmX12⟩
theorem f_12_303 : e_fld 12 303 12 96 121 0 false := ⟨RX12, TX12, 96, rfl, rfl, by decide, rfl, rfl, rfl, iX12, tblG_in (inT7 (List.mem_of_getElem? (i := 47) rfl)) rfl, tyX12_ok, nmX12⟩
theorem f_12_306 : e_fld 12 306 12 97 121 0 false := ⟨RX12, TX12, 97, rfl, rfl, by decide, rfl, rfl, rfl, iX12, tblG_in (inT7 (List.mem_of_getElem? (i := 48) rfl)) rfl, tyX12_ok, nmX12⟩
theorem f_12_309 : e_fld 12 309 12 98 121 0 false := ⟨RX12, TX12, 98, rfl, rfl, by decide, rfl, rfl, rfl, iX12, tblG_in (inT7 (List.mem_of_getElem? (i := 49) rfl)) rfl, tyX12_ok, nmX12⟩
theorem f_12_312 : e_fld 12 312 12 99 121 0 false := ⟨RX12, TX12, 99, rfl, rfl, by decide, rfl, rfl, rfl, iX12, tblG_in (inT7 (List.mem_of_getElem? (i := 50) rfl)) rfl, tyX12_ok, nmX12⟩
theorem f_12_315 : e_fld 12 315 12 100 121 2 true := ⟨RX12, TX12, 100, rfl, rfl, by decide, rfl, rfl, rfl, iX12, tblG_in (inT7 (List.mem_of_getElem? (i := 51) rfl)) rfl, tyX12_ok, nmX12⟩
theorem f_12_318 : e_fld 12 318 12 101 121 0 false := ⟨RX12, TX12, 101, rfl, rfl, by decide, rfl, rfl, rfl, iX12, tblG_in (inT7 (List.mem_of_getElem? (i := 52) rfl)) rfl, tyX12_ok, nmX12⟩
theorem f_12_321 : e_fld 12 321 12 102 121 2 true := ⟨RX12, TX12, 102, rfl, rfl, by decide, rfl, rfl, rfl, iX12, tblG_in (inT7 (List.mem_of_getElem? (i := 53) rfl)) rfl, tyX12_ok, nmX12⟩
theorem f_12_324 : e_fld 12 324 12 103 121 2 true := ⟨RX12, TX12, 103, rfl, rfl, by decide, rfl, rfl, rfl, iX12, tblG_in (inT7 (List.mem_of_getElem? (i := 54) rfl)) rfl, tyX12_ok, nmX12⟩
theorem f_12_327 : e_fld 12 327 12 104 121 3 false := ⟨RX12, TX12, 104, rfl, rfl, by decide, rfl, rfl, rfl, iX12, tblG_in (inT7 (List.mem_of_getElem? (i := 55) rfl)) rfl, tyX12_ok, nmX12⟩
theorem f_12_330 : e_fld 12 330 12 105 121 2 true := ⟨RX12, TX12, 105, rfl, rfl, by decide, rfl, rfl, rfl, iX12, tblG_in (inT7 (List.mem_of_getElem? (i := 56) rfl)) rfl, tyX12_ok, nmX12⟩
theorem f_12_333 : e_fld 12 333 12 106 121 0 false := ⟨RX12, TX12, 106, rfl, rfl, by decide, rfl, rfl, rfl, iX12, tblG_in (inT7 (List.mem_of_getElem? (i := 57) rfl)) rfl, tyX12_ok, nmX12⟩
theorem f_12_336 : e_fld 12 336 12 107 121 2 true := ⟨RX12, TX12, 107, rfl, rfl, by decide, rfl, rfl, rfl, iX12, tblG_in (inT7 (List.mem_of_getElem? (i := 58) rfl)) rfl, tyX12_ok, nmX12⟩
theorem f_12_339 : e_fld 12 339 12 108 121 2 true := ⟨RX12, TX12, 108, rfl, rfl, by decide, rfl, rfl, rfl, iX12, tblG_in (inT7 (List.mem_of_getElem? (i := 59) rfl)) rfl, tyX12_ok, nmX12⟩
theorem f_12_342 : e_fld 12 342 12 109 121 3 false := ⟨RX12, TX12, 109, rfl, rfl, by decide, rfl, rfl, rfl, iX12, tblG_in (inT7 (List.mem_of_getElem? (i := 60) rfl)) rfl, tyX12_ok, nmX12⟩
theorem f_12_345 : e_fld 12 345 12 110 121 2 true := ⟨RX12, TX12, 110, rfl, rfl, by decide, rfl, rfl, rfl, iX12, tblG_in (inT7 (List.mem_of_getElem? (i := 61) rfl)) rfl, tyX12_ok, nmX12⟩
theorem f_12_348 : e_fld 12 348 12 111 121 2 true := ⟨RX12, TX12, 111, rfl, rfl, by decide, rfl, rfl, rfl, iX12, tblG_in (inT7 (List.mem_of_getElem? (i := 62) rfl)) rfl, tyX12_ok, nmX12⟩
theorem f_12_351 : e_fld 12 351 12 112 121 2 true := ⟨RX12, TX12, 112, rfl, rfl, by decide, rfl, rfl, rfl, iX12, tblG_in (inT7 (List.mem_of_getElem? (i := 63) rfl)) rfl, tyX12_ok, nmX12⟩
theorem f_12_354 : e_fld 12 354 12 113 121 0 false := ⟨RX12, TX12, 113, rfl, rfl, by decide, rfl, rfl, rfl, iX12, tblG_in (inT7 (List.mem_of_getElem? (i := 64) rfl)) rfl, tyX12_ok, nmX12⟩
theorem f_12_357 : e_fld 12 357 12 114 121 2 true := ⟨RX12, TX12, 114, rfl, rfl, by decide, rfl, rfl, rfl, iX12, tblG_in (inT7 (List.mem_of_getElem? (i := 65) rfl)) rfl, tyX12_ok, nmX12⟩
theorem f_12_360 : e_fld 12 360 12 115 121 2 true := ⟨RX12, TX12, 115, rfl, rfl, by decide, rfl, rfl, rfl, iX12, tblG_in (inT7 (List.mem_of_getElem? (i := 66) rfl)) rfl, tyX12_ok, nmX12⟩
theorem f_12_363 : e_fld 12 363 12 116 121 2 true := ⟨RX12, TX12, 116, rfl, rfl, by decide, rfl, rfl, rfl, iX12, tblG_in (inT7 (List.mem_of_getElem? (i := 67) rfl)) rfl, tyX12_ok, nmX12⟩
theorem f_12_366 : e_fld 12 366 12 117 121 0 false := ⟨RX12, TX12, 117, rfl, rfl, by decide, rfl, rfl, rfl, iX12, tblG_in (inT7 (List.mem_of_getElem? (i := 68) rfl)) rfl, tyX12_ok, nmX12⟩
theorem f_12_369 : e_fld 12 369 12 118 121 2 true := ⟨RX12, TX12, 118, rfl, rfl, by decide, rfl, rfl, rfl, iX12, tblG_in (inT7 (List.mem_of_getElem? (i := 69) rfl)) rfl, tyX12_ok, nmX12⟩
theorem f_12_372 : e_fld 12 372 12 119 121 2 true := ⟨RX12, TX12, 119, rfl, rfl, by decide, rfl, rfl, rfl, iX12, tblG_in (inT7 (List.mem_of_getElem? (i := 70) rfl)) rfl, tyX12_ok, nmX12⟩
theorem f_12_375 : e_fld 12 375 12 120 121 2 true := ⟨RX12, TX12, 120, rfl, rfl, by decide, rfl, rfl, rfl, iX12, tblG_in (inT7 (List.mem_of_getElem? (i := 71) rfl)) rfl, tyX12_ok, nmX12⟩
