-- ===== PART A: goes FIRST, ahead of the names: the tables' words, and 'selects' of the private methods out of them =====
/-- a private method of a class that the tables say can be made, by its rows of tables_1 -/
def lw_okq (q : MethodName × Nat) : Prop := (q.1.cls ≠ "java/lang/invoke/MethodHandle" ∧ q.1.cls ≠ "java/lang/invoke/VarHandle") ∧ Cond.instantiable q.1.cls q.2 ∈ tables_1 ∧ Cond.privateMethod q.1 ∈ tables_1 ∧ Cond.instanceMethod q.1 ∈ tables_1
theorem lw_p0 : lw_okq (⟨"SipMeter", "lay", "(I)V"⟩, 14) := ⟨⟨by decide +kernel, by decide +kernel⟩, List.mem_of_getElem? (i := 25) (by decide +kernel), List.mem_of_getElem? (i := 576) (by decide +kernel), List.mem_of_getElem? (i := 577) (by decide +kernel)⟩
theorem lw_p1 : lw_okq (⟨"SipMeter$Tokens", "skipBlanks", "(I)I"⟩, 6) := ⟨⟨by decide +kernel, by decide +kernel⟩, List.mem_of_getElem? (i := 33) (by decide +kernel), List.mem_of_getElem? (i := 592) (by decide +kernel), List.mem_of_getElem? (i := 593) (by decide +kernel)⟩
theorem lw_p2 : lw_okq (⟨"SipMeter$Tokens", "takeOne", "(IZ)I"⟩, 6) := ⟨⟨by decide +kernel, by decide +kernel⟩, List.mem_of_getElem? (i := 33) (by decide +kernel), List.mem_of_getElem? (i := 596) (by decide +kernel), List.mem_of_getElem? (i := 597) (by decide +kernel)⟩
theorem lw_p3 : lw_okq (⟨"SipMeter$Tokens", "add", "(IIII)I"⟩, 6) := ⟨⟨by decide +kernel, by decide +kernel⟩, List.mem_of_getElem? (i := 33) (by decide +kernel), List.mem_of_getElem? (i := 600) (by decide +kernel), List.mem_of_getElem? (i := 601) (by decide +kernel)⟩
theorem lw_p4 : lw_okq (⟨"SipMeter$Tokens", "takeWord", "(I)I"⟩, 6) := ⟨⟨by decide +kernel, by decide +kernel⟩, List.mem_of_getElem? (i := 33) (by decide +kernel), List.mem_of_getElem? (i := 610) (by decide +kernel), List.mem_of_getElem? (i := 611) (by decide +kernel)⟩
theorem lw_p5 : lw_okq (⟨"SipMeter$Tokens", "ownWord", "(II)I"⟩, 6) := ⟨⟨by decide +kernel, by decide +kernel⟩, List.mem_of_getElem? (i := 33) (by decide +kernel), List.mem_of_getElem? (i := 614) (by decide +kernel), List.mem_of_getElem? (i := 615) (by decide +kernel)⟩
theorem lw_p6 : lw_okq (⟨"SipMeter$Tokens", "isOwn", "(III)Z"⟩, 6) := ⟨⟨by decide +kernel, by decide +kernel⟩, List.mem_of_getElem? (i := 33) (by decide +kernel), List.mem_of_getElem? (i := 618) (by decide +kernel), List.mem_of_getElem? (i := 619) (by decide +kernel)⟩
theorem lw_p7 : lw_okq (⟨"SipMeter$Tokens", "takeNumber", "(I)I"⟩, 6) := ⟨⟨by decide +kernel, by decide +kernel⟩, List.mem_of_getElem? (i := 33) (by decide +kernel), List.mem_of_getElem? (i := 663) (by decide +kernel), List.mem_of_getElem? (i := 664) (by decide +kernel)⟩
theorem lw_p8 : lw_okq (⟨"SipMeter$Reader", "declarations", "()Z"⟩, 7) := ⟨⟨by decide +kernel, by decide +kernel⟩, List.mem_of_getElem? (i := 63) (by decide +kernel), List.mem_of_getElem? (i := 739) (by decide +kernel), List.mem_of_getElem? (i := 740) (by decide +kernel)⟩
theorem lw_p9 : lw_okq (⟨"SipMeter$Reader", "declaration", "(I)Z"⟩, 7) := ⟨⟨by decide +kernel, by decide +kernel⟩, List.mem_of_getElem? (i := 63) (by decide +kernel), List.mem_of_getElem? (i := 743) (by decide +kernel), List.mem_of_getElem? (i := 744) (by decide +kernel)⟩
theorem lw_p10 : lw_okq (⟨"SipMeter$Reader", "heart", "()Z"⟩, 7) := ⟨⟨by decide +kernel, by decide +kernel⟩, List.mem_of_getElem? (i := 63) (by decide +kernel), List.mem_of_getElem? (i := 747) (by decide +kernel), List.mem_of_getElem? (i := 748) (by decide +kernel)⟩
theorem lw_p11 : lw_okq (⟨"SipMeter$Reader", "goOn", "()Z"⟩, 7) := ⟨⟨by decide +kernel, by decide +kernel⟩, List.mem_of_getElem? (i := 63) (by decide +kernel), List.mem_of_getElem? (i := 751) (by decide +kernel), List.mem_of_getElem? (i := 752) (by decide +kernel)⟩
theorem lw_p12 : lw_okq (⟨"SipMeter$Reader", "takeNumber", "(II)I"⟩, 7) := ⟨⟨by decide +kernel, by decide +kernel⟩, List.mem_of_getElem? (i := 63) (by decide +kernel), List.mem_of_getElem? (i := 755) (by decide +kernel), List.mem_of_getElem? (i := 756) (by decide +kernel)⟩
theorem lw_p13 : lw_okq (⟨"SipMeter$Reader", "refuse", "(I)Z"⟩, 7) := ⟨⟨by decide +kernel, by decide +kernel⟩, List.mem_of_getElem? (i := 63) (by decide +kernel), List.mem_of_getElem? (i := 759) (by decide +kernel), List.mem_of_getElem? (i := 760) (by decide +kernel)⟩
theorem lw_p14 : lw_okq (⟨"SipMeter$Reader", "takeSign", "(C)Z"⟩, 7) := ⟨⟨by decide +kernel, by decide +kernel⟩, List.mem_of_getElem? (i := 63) (by decide +kernel), List.mem_of_getElem? (i := 763) (by decide +kernel), List.mem_of_getElem? (i := 764) (by decide +kernel)⟩
theorem lw_p15 : lw_okq (⟨"SipMeter$Reader", "isSign", "(C)Z"⟩, 7) := ⟨⟨by decide +kernel, by decide +kernel⟩, List.mem_of_getElem? (i := 63) (by decide +kernel), List.mem_of_getElem? (i := 767) (by decide +kernel), List.mem_of_getElem? (i := 768) (by decide +kernel)⟩
def lw_privs_1 : List (MethodName × Nat) := [(⟨"SipMeter", "lay", "(I)V"⟩, 14), (⟨"SipMeter$Tokens", "skipBlanks", "(I)I"⟩, 6), (⟨"SipMeter$Tokens", "takeOne", "(IZ)I"⟩, 6), (⟨"SipMeter$Tokens", "add", "(IIII)I"⟩, 6), (⟨"SipMeter$Tokens", "takeWord", "(I)I"⟩, 6), (⟨"SipMeter$Tokens", "ownWord", "(II)I"⟩, 6), (⟨"SipMeter$Tokens", "isOwn", "(III)Z"⟩, 6), (⟨"SipMeter$Tokens", "takeNumber", "(I)I"⟩, 6), (⟨"SipMeter$Reader", "declarations", "()Z"⟩, 7), (⟨"SipMeter$Reader", "declaration", "(I)Z"⟩, 7), (⟨"SipMeter$Reader", "heart", "()Z"⟩, 7), (⟨"SipMeter$Reader", "goOn", "()Z"⟩, 7), (⟨"SipMeter$Reader", "takeNumber", "(II)I"⟩, 7), (⟨"SipMeter$Reader", "refuse", "(I)Z"⟩, 7), (⟨"SipMeter$Reader", "takeSign", "(C)Z"⟩, 7), (⟨"SipMeter$Reader", "isSign", "(C)Z"⟩, 7)]
theorem lw_r1 : ∀ q ∈ lw_privs_1, lw_okq q := List.forall_mem_cons.mpr ⟨lw_p0, List.forall_mem_cons.mpr ⟨lw_p1, List.forall_mem_cons.mpr ⟨lw_p2, List.forall_mem_cons.mpr ⟨lw_p3, List.forall_mem_cons.mpr ⟨lw_p4, List.forall_mem_cons.mpr ⟨lw_p5, List.forall_mem_cons.mpr ⟨lw_p6, List.forall_mem_cons.mpr ⟨lw_p7, List.forall_mem_cons.mpr ⟨lw_p8, List.forall_mem_cons.mpr ⟨lw_p9, List.forall_mem_cons.mpr ⟨lw_p10, List.forall_mem_cons.mpr ⟨lw_p11, List.forall_mem_cons.mpr ⟨lw_p12, List.forall_mem_cons.mpr ⟨lw_p13, List.forall_mem_cons.mpr ⟨lw_p14, List.forall_mem_cons.mpr ⟨lw_p15, fun _ h => absurd h List.not_mem_nil⟩⟩⟩⟩⟩⟩⟩⟩⟩⟩⟩⟩⟩⟩⟩⟩
theorem lw_p16 : lw_okq (⟨"SipMeter$Reader", "cache", "()Z"⟩, 7) := ⟨⟨by decide +kernel, by decide +kernel⟩, List.mem_of_getElem? (i := 63) (by decide +kernel), List.mem_of_getElem? (i := 771) (by decide +kernel), List.mem_of_getElem? (i := 772) (by decide +kernel)⟩
theorem lw_p17 : lw_okq (⟨"SipMeter$Reader", "part", "()Z"⟩, 7) := ⟨⟨by decide +kernel, by decide +kernel⟩, List.mem_of_getElem? (i := 63) (by decide +kernel), List.mem_of_getElem? (i := 775) (by decide +kernel), List.mem_of_getElem? (i := 776) (by decide +kernel)⟩
theorem lw_p18 : lw_okq (⟨"SipMeter$Reader", "beginNamed", "(I)Z"⟩, 7) := ⟨⟨by decide +kernel, by decide +kernel⟩, List.mem_of_getElem? (i := 63) (by decide +kernel), List.mem_of_getElem? (i := 779) (by decide +kernel), List.mem_of_getElem? (i := 780) (by decide +kernel)⟩
theorem lw_p19 : lw_okq (⟨"SipMeter$Reader", "takeTold", "(II)I"⟩, 7) := ⟨⟨by decide +kernel, by decide +kernel⟩, List.mem_of_getElem? (i := 63) (by decide +kernel), List.mem_of_getElem? (i := 799) (by decide +kernel), List.mem_of_getElem? (i := 800) (by decide +kernel)⟩
theorem lw_p20 : lw_okq (⟨"SipMeter$Reader", "takeOwn", "(I)Z"⟩, 7) := ⟨⟨by decide +kernel, by decide +kernel⟩, List.mem_of_getElem? (i := 63) (by decide +kernel), List.mem_of_getElem? (i := 803) (by decide +kernel), List.mem_of_getElem? (i := 804) (by decide +kernel)⟩
theorem lw_p21 : lw_okq (⟨"SipMeter$Reader", "isOwn", "(I)Z"⟩, 7) := ⟨⟨by decide +kernel, by decide +kernel⟩, List.mem_of_getElem? (i := 63) (by decide +kernel), List.mem_of_getElem? (i := 807) (by decide +kernel), List.mem_of_getElem? (i := 808) (by decide +kernel)⟩
theorem lw_p22 : lw_okq (⟨"SipMeter$Reader", "input", "()Z"⟩, 7) := ⟨⟨by decide +kernel, by decide +kernel⟩, List.mem_of_getElem? (i := 63) (by decide +kernel), List.mem_of_getElem? (i := 811) (by decide +kernel), List.mem_of_getElem? (i := 812) (by decide +kernel)⟩
theorem lw_p23 : lw_okq (⟨"SipMeter$Reader", "orders", "(I)I"⟩, 7) := ⟨⟨by decide +kernel, by decide +kernel⟩, List.mem_of_getElem? (i := 63) (by decide +kernel), List.mem_of_getElem? (i := 815) (by decide +kernel), List.mem_of_getElem? (i := 816) (by decide +kernel)⟩
theorem lw_p24 : lw_okq (⟨"SipMeter$Reader", "isOrder", "()Z"⟩, 7) := ⟨⟨by decide +kernel, by decide +kernel⟩, List.mem_of_getElem? (i := 63) (by decide +kernel), List.mem_of_getElem? (i := 819) (by decide +kernel), List.mem_of_getElem? (i := 820) (by decide +kernel)⟩
theorem lw_p25 : lw_okq (⟨"SipMeter$Reader", "order", "(I)Z"⟩, 7) := ⟨⟨by decide +kernel, by decide +kernel⟩, List.mem_of_getElem? (i := 63) (by decide +kernel), List.mem_of_getElem? (i := 827) (by decide +kernel), List.mem_of_getElem? (i := 828) (by decide +kernel)⟩
theorem lw_p26 : lw_okq (⟨"SipMeter$Reader", "about", "(II)Z"⟩, 7) := ⟨⟨by decide +kernel, by decide +kernel⟩, List.mem_of_getElem? (i := 63) (by decide +kernel), List.mem_of_getElem? (i := 831) (by decide +kernel), List.mem_of_getElem? (i := 832) (by decide +kernel)⟩
theorem lw_p27 : lw_okq (⟨"SipMeter$Reader", "takeName", "(I)I"⟩, 7) := ⟨⟨by decide +kernel, by decide +kernel⟩, List.mem_of_getElem? (i := 63) (by decide +kernel), List.mem_of_getElem? (i := 835) (by decide +kernel), List.mem_of_getElem? (i := 836) (by decide +kernel)⟩
theorem lw_p28 : lw_okq (⟨"SipMeter$Reader", "sum", "()Z"⟩, 7) := ⟨⟨by decide +kernel, by decide +kernel⟩, List.mem_of_getElem? (i := 63) (by decide +kernel), List.mem_of_getElem? (i := 844) (by decide +kernel), List.mem_of_getElem? (i := 845) (by decide +kernel)⟩
theorem lw_p29 : lw_okq (⟨"SipMeter$Reader", "product", "()Z"⟩, 7) := ⟨⟨by decide +kernel, by decide +kernel⟩, List.mem_of_getElem? (i := 63) (by decide +kernel), List.mem_of_getElem? (i := 848) (by decide +kernel), List.mem_of_getElem? (i := 849) (by decide +kernel)⟩
theorem lw_p30 : lw_okq (⟨"SipMeter$Reader", "piece", "()Z"⟩, 7) := ⟨⟨by decide +kernel, by decide +kernel⟩, List.mem_of_getElem? (i := 63) (by decide +kernel), List.mem_of_getElem? (i := 852) (by decide +kernel), List.mem_of_getElem? (i := 853) (by decide +kernel)⟩
theorem lw_p31 : lw_okq (⟨"SipMeter$Reader", "namedPiece", "()Z"⟩, 7) := ⟨⟨by decide +kernel, by decide +kernel⟩, List.mem_of_getElem? (i := 63) (by decide +kernel), List.mem_of_getElem? (i := 860) (by decide +kernel), List.mem_of_getElem? (i := 861) (by decide +kernel)⟩
def lw_privs_2 : List (MethodName × Nat) := [(⟨"SipMeter$Reader", "cache", "()Z"⟩, 7), (⟨"SipMeter$Reader", "part", "()Z"⟩, 7), (⟨"SipMeter$Reader", "beginNamed", "(I)Z"⟩, 7), (⟨"SipMeter$Reader", "takeTold", "(II)I"⟩, 7), (⟨"SipMeter$Reader", "takeOwn", "(I)Z"⟩, 7), (⟨"SipMeter$Reader", "isOwn", "(I)Z"⟩, 7), (⟨"SipMeter$Reader", "input", "()Z"⟩, 7), (⟨"SipMeter$Reader", "orders", "(I)I"⟩, 7), (⟨"SipMeter$Reader", "isOrder", "()Z"⟩, 7), (⟨"SipMeter$Reader", "order", "(I)Z"⟩, 7), (⟨"SipMeter$Reader", "about", "(II)Z"⟩, 7), (⟨"SipMeter$Reader", "takeName", "(I)I"⟩, 7), (⟨"SipMeter$Reader", "sum", "()Z"⟩, 7), (⟨"SipMeter$Reader", "product", "()Z"⟩, 7), (⟨"SipMeter$Reader", "piece", "()Z"⟩, 7), (⟨"SipMeter$Reader", "namedPiece", "()Z"⟩, 7)]
theorem lw_r2 : ∀ q ∈ lw_privs_2, lw_okq q := List.forall_mem_cons.mpr ⟨lw_p16, List.forall_mem_cons.mpr ⟨lw_p17, List.forall_mem_cons.mpr ⟨lw_p18, List.forall_mem_cons.mpr ⟨lw_p19, List.forall_mem_cons.mpr ⟨lw_p20, List.forall_mem_cons.mpr ⟨lw_p21, List.forall_mem_cons.mpr ⟨lw_p22, List.forall_mem_cons.mpr ⟨lw_p23, List.forall_mem_cons.mpr ⟨lw_p24, List.forall_mem_cons.mpr ⟨lw_p25, List.forall_mem_cons.mpr ⟨lw_p26, List.forall_mem_cons.mpr ⟨lw_p27, List.forall_mem_cons.mpr ⟨lw_p28, List.forall_mem_cons.mpr ⟨lw_p29, List.forall_mem_cons.mpr ⟨lw_p30, List.forall_mem_cons.mpr ⟨lw_p31, fun _ h => absurd h List.not_mem_nil⟩⟩⟩⟩⟩⟩⟩⟩⟩⟩⟩⟩⟩⟩⟩⟩
theorem lw_p32 : lw_okq (⟨"SipMeter$Reader", "takeOpening", "(C)Z"⟩, 7) := ⟨⟨by decide +kernel, by decide +kernel⟩, List.mem_of_getElem? (i := 63) (by decide +kernel), List.mem_of_getElem? (i := 864) (by decide +kernel), List.mem_of_getElem? (i := 865) (by decide +kernel)⟩
theorem lw_p33 : lw_okq (⟨"SipMeter$Reader", "takeClosing", "(C)Z"⟩, 7) := ⟨⟨by decide +kernel, by decide +kernel⟩, List.mem_of_getElem? (i := 63) (by decide +kernel), List.mem_of_getElem? (i := 868) (by decide +kernel), List.mem_of_getElem? (i := 869) (by decide +kernel)⟩
theorem lw_p34 : lw_okq (⟨"SipMeter$Reader", "choice", "(I)Z"⟩, 7) := ⟨⟨by decide +kernel, by decide +kernel⟩, List.mem_of_getElem? (i := 63) (by decide +kernel), List.mem_of_getElem? (i := 872) (by decide +kernel), List.mem_of_getElem? (i := 873) (by decide +kernel)⟩
theorem lw_p35 : lw_okq (⟨"SipMeter$Reader", "test", "()Z"⟩, 7) := ⟨⟨by decide +kernel, by decide +kernel⟩, List.mem_of_getElem? (i := 63) (by decide +kernel), List.mem_of_getElem? (i := 876) (by decide +kernel), List.mem_of_getElem? (i := 877) (by decide +kernel)⟩
theorem lw_p36 : lw_okq (⟨"SipMeter$Reader", "both", "()Z"⟩, 7) := ⟨⟨by decide +kernel, by decide +kernel⟩, List.mem_of_getElem? (i := 63) (by decide +kernel), List.mem_of_getElem? (i := 880) (by decide +kernel), List.mem_of_getElem? (i := 881) (by decide +kernel)⟩
theorem lw_p37 : lw_okq (⟨"SipMeter$Reader", "fact", "()Z"⟩, 7) := ⟨⟨by decide +kernel, by decide +kernel⟩, List.mem_of_getElem? (i := 63) (by decide +kernel), List.mem_of_getElem? (i := 884) (by decide +kernel), List.mem_of_getElem? (i := 885) (by decide +kernel)⟩
theorem lw_p38 : lw_okq (⟨"SipMeter$Reader", "plainFact", "()Z"⟩, 7) := ⟨⟨by decide +kernel, by decide +kernel⟩, List.mem_of_getElem? (i := 63) (by decide +kernel), List.mem_of_getElem? (i := 888) (by decide +kernel), List.mem_of_getElem? (i := 889) (by decide +kernel)⟩
theorem lw_p39 : lw_okq (⟨"SipMeter$Reader", "yesBlock", "(I)Z"⟩, 7) := ⟨⟨by decide +kernel, by decide +kernel⟩, List.mem_of_getElem? (i := 63) (by decide +kernel), List.mem_of_getElem? (i := 892) (by decide +kernel), List.mem_of_getElem? (i := 893) (by decide +kernel)⟩
theorem lw_p40 : lw_okq (⟨"SipMeter$Reader", "block", "(I)I"⟩, 7) := ⟨⟨by decide +kernel, by decide +kernel⟩, List.mem_of_getElem? (i := 63) (by decide +kernel), List.mem_of_getElem? (i := 896) (by decide +kernel), List.mem_of_getElem? (i := 897) (by decide +kernel)⟩
theorem lw_p41 : lw_okq (⟨"SipMeter$Reader", "noBlock", "(I)Z"⟩, 7) := ⟨⟨by decide +kernel, by decide +kernel⟩, List.mem_of_getElem? (i := 63) (by decide +kernel), List.mem_of_getElem? (i := 900) (by decide +kernel), List.mem_of_getElem? (i := 901) (by decide +kernel)⟩
theorem lw_p42 : lw_okq (⟨"SipMeter$Program", "behind", "(I)I"⟩, 13) := ⟨⟨by decide +kernel, by decide +kernel⟩, List.mem_of_getElem? (i := 99) (by decide +kernel), List.mem_of_getElem? (i := 908) (by decide +kernel), List.mem_of_getElem? (i := 909) (by decide +kernel)⟩
theorem lw_p43 : lw_okq (⟨"SipMeter$Runner", "begin", "(LSipMeter$Machine;[II)V"⟩, 18) := ⟨⟨by decide +kernel, by decide +kernel⟩, List.mem_of_getElem? (i := 233) (by decide +kernel), List.mem_of_getElem? (i := 951) (by decide +kernel), List.mem_of_getElem? (i := 952) (by decide +kernel)⟩
theorem lw_p44 : lw_okq (⟨"SipMeter$Runner", "step", "(I)I"⟩, 18) := ⟨⟨by decide +kernel, by decide +kernel⟩, List.mem_of_getElem? (i := 233) (by decide +kernel), List.mem_of_getElem? (i := 995) (by decide +kernel), List.mem_of_getElem? (i := 996) (by decide +kernel)⟩
theorem lw_p45 : lw_okq (⟨"SipMeter$Runner", "pass", "(III)I"⟩, 18) := ⟨⟨by decide +kernel, by decide +kernel⟩, List.mem_of_getElem? (i := 233) (by decide +kernel), List.mem_of_getElem? (i := 999) (by decide +kernel), List.mem_of_getElem? (i := 1000) (by decide +kernel)⟩
theorem lw_p46 : lw_okq (⟨"SipMeter$Runner", "afforded", "(III)I"⟩, 18) := ⟨⟨by decide +kernel, by decide +kernel⟩, List.mem_of_getElem? (i := 233) (by decide +kernel), List.mem_of_getElem? (i := 1004) (by decide +kernel), List.mem_of_getElem? (i := 1005) (by decide +kernel)⟩
theorem lw_p47 : lw_okq (⟨"SipMeter$Runner", "sipsAt", "(III)I"⟩, 18) := ⟨⟨by decide +kernel, by decide +kernel⟩, List.mem_of_getElem? (i := 233) (by decide +kernel), List.mem_of_getElem? (i := 1008) (by decide +kernel), List.mem_of_getElem? (i := 1009) (by decide +kernel)⟩
def lw_privs_3 : List (MethodName × Nat) := [(⟨"SipMeter$Reader", "takeOpening", "(C)Z"⟩, 7), (⟨"SipMeter$Reader", "takeClosing", "(C)Z"⟩, 7), (⟨"SipMeter$Reader", "choice", "(I)Z"⟩, 7), (⟨"SipMeter$Reader", "test", "()Z"⟩, 7), (⟨"SipMeter$Reader", "both", "()Z"⟩, 7), (⟨"SipMeter$Reader", "fact", "()Z"⟩, 7), (⟨"SipMeter$Reader", "plainFact", "()Z"⟩, 7), (⟨"SipMeter$Reader", "yesBlock", "(I)Z"⟩, 7), (⟨"SipMeter$Reader", "block", "(I)I"⟩, 7), (⟨"SipMeter$Reader", "noBlock", "(I)Z"⟩, 7), (⟨"SipMeter$Program", "behind", "(I)I"⟩, 13), (⟨"SipMeter$Runner", "begin", "(LSipMeter$Machine;[II)V"⟩, 18), (⟨"SipMeter$Runner", "step", "(I)I"⟩, 18), (⟨"SipMeter$Runner", "pass", "(III)I"⟩, 18), (⟨"SipMeter$Runner", "afforded", "(III)I"⟩, 18), (⟨"SipMeter$Runner", "sipsAt", "(III)I"⟩, 18)]
theorem lw_r3 : ∀ q ∈ lw_privs_3, lw_okq q := List.forall_mem_cons.mpr ⟨lw_p32, List.forall_mem_cons.mpr ⟨lw_p33, List.forall_mem_cons.mpr ⟨lw_p34, List.forall_mem_cons.mpr ⟨lw_p35, List.forall_mem_cons.mpr ⟨lw_p36, List.forall_mem_cons.mpr ⟨lw_p37, List.forall_mem_cons.mpr ⟨lw_p38, List.forall_mem_cons.mpr ⟨lw_p39, List.forall_mem_cons.mpr ⟨lw_p40, List.forall_mem_cons.mpr ⟨lw_p41, List.forall_mem_cons.mpr ⟨lw_p42, List.forall_mem_cons.mpr ⟨lw_p43, List.forall_mem_cons.mpr ⟨lw_p44, List.forall_mem_cons.mpr ⟨lw_p45, List.forall_mem_cons.mpr ⟨lw_p46, List.forall_mem_cons.mpr ⟨lw_p47, fun _ h => absurd h List.not_mem_nil⟩⟩⟩⟩⟩⟩⟩⟩⟩⟩⟩⟩⟩⟩⟩⟩
theorem lw_p48 : lw_okq (⟨"SipMeter$Runner", "worked", "(I)I"⟩, 18) := ⟨⟨by decide +kernel, by decide +kernel⟩, List.mem_of_getElem? (i := 233) (by decide +kernel), List.mem_of_getElem? (i := 1012) (by decide +kernel), List.mem_of_getElem? (i := 1013) (by decide +kernel)⟩
theorem lw_p49 : lw_okq (⟨"SipMeter$Runner", "single", "(II)I"⟩, 18) := ⟨⟨by decide +kernel, by decide +kernel⟩, List.mem_of_getElem? (i := 233) (by decide +kernel), List.mem_of_getElem? (i := 1016) (by decide +kernel), List.mem_of_getElem? (i := 1017) (by decide +kernel)⟩
theorem lw_p50 : lw_okq (⟨"SipMeter$Runner", "use", "(III)V"⟩, 18) := ⟨⟨by decide +kernel, by decide +kernel⟩, List.mem_of_getElem? (i := 233) (by decide +kernel), List.mem_of_getElem? (i := 1041) (by decide +kernel), List.mem_of_getElem? (i := 1042) (by decide +kernel)⟩
theorem lw_p51 : lw_okq (⟨"SipMeter$Runner", "wakeOf", "(I)I"⟩, 18) := ⟨⟨by decide +kernel, by decide +kernel⟩, List.mem_of_getElem? (i := 233) (by decide +kernel), List.mem_of_getElem? (i := 1045) (by decide +kernel), List.mem_of_getElem? (i := 1046) (by decide +kernel)⟩
theorem lw_p52 : lw_okq (⟨"SipMeter$Runner", "settle", "(II)V"⟩, 18) := ⟨⟨by decide +kernel, by decide +kernel⟩, List.mem_of_getElem? (i := 233) (by decide +kernel), List.mem_of_getElem? (i := 1049) (by decide +kernel), List.mem_of_getElem? (i := 1050) (by decide +kernel)⟩
theorem lw_p53 : lw_okq (⟨"SipMeter$Runner", "bookBusy", "(IIII)V"⟩, 18) := ⟨⟨by decide +kernel, by decide +kernel⟩, List.mem_of_getElem? (i := 233) (by decide +kernel), List.mem_of_getElem? (i := 1065) (by decide +kernel), List.mem_of_getElem? (i := 1066) (by decide +kernel)⟩
theorem lw_p54 : lw_okq (⟨"SipMeter$Runner", "hold", "(II)V"⟩, 18) := ⟨⟨by decide +kernel, by decide +kernel⟩, List.mem_of_getElem? (i := 233) (by decide +kernel), List.mem_of_getElem? (i := 1085) (by decide +kernel), List.mem_of_getElem? (i := 1086) (by decide +kernel)⟩
theorem lw_p55 : lw_okq (⟨"SipMeter$Runner", "free", "(II)V"⟩, 18) := ⟨⟨by decide +kernel, by decide +kernel⟩, List.mem_of_getElem? (i := 233) (by decide +kernel), List.mem_of_getElem? (i := 1093) (by decide +kernel), List.mem_of_getElem? (i := 1094) (by decide +kernel)⟩
theorem lw_p56 : lw_okq (⟨"SipMeter$Runner", "touch", "(I)V"⟩, 18) := ⟨⟨by decide +kernel, by decide +kernel⟩, List.mem_of_getElem? (i := 233) (by decide +kernel), List.mem_of_getElem? (i := 1105) (by decide +kernel), List.mem_of_getElem? (i := 1106) (by decide +kernel)⟩
theorem lw_p57 : lw_okq (⟨"SipMeter$Runner", "finish", "()V"⟩, 18) := ⟨⟨by decide +kernel, by decide +kernel⟩, List.mem_of_getElem? (i := 233) (by decide +kernel), List.mem_of_getElem? (i := 1113) (by decide +kernel), List.mem_of_getElem? (i := 1114) (by decide +kernel)⟩
theorem lw_p58 : lw_okq (⟨"SipMeter", "isPart", "(I)Z"⟩, 14) := ⟨⟨by decide +kernel, by decide +kernel⟩, List.mem_of_getElem? (i := 25) (by decide +kernel), List.mem_of_getElem? (i := 1139) (by decide +kernel), List.mem_of_getElem? (i := 1140) (by decide +kernel)⟩
theorem lw_p59 : lw_okq (⟨"SipMeter", "isLine", "(I)Z"⟩, 14) := ⟨⟨by decide +kernel, by decide +kernel⟩, List.mem_of_getElem? (i := 25) (by decide +kernel), List.mem_of_getElem? (i := 1151) (by decide +kernel), List.mem_of_getElem? (i := 1152) (by decide +kernel)⟩
theorem lw_p60 : lw_okq (⟨"SipMeter", "stretchPlace", "(II)I"⟩, 14) := ⟨⟨by decide +kernel, by decide +kernel⟩, List.mem_of_getElem? (i := 25) (by decide +kernel), List.mem_of_getElem? (i := 1184) (by decide +kernel), List.mem_of_getElem? (i := 1185) (by decide +kernel)⟩
theorem lw_p61 : lw_okq (⟨"SipMeter$Turns", "bitOf", "(I)I"⟩, 4) := ⟨⟨by decide +kernel, by decide +kernel⟩, List.mem_of_getElem? (i := 405) (by decide +kernel), List.mem_of_getElem? (i := 1215) (by decide +kernel), List.mem_of_getElem? (i := 1216) (by decide +kernel)⟩
theorem lw_p62 : lw_okq (⟨"SipMeter$Turns", "rank", "(I)I"⟩, 4) := ⟨⟨by decide +kernel, by decide +kernel⟩, List.mem_of_getElem? (i := 405) (by decide +kernel), List.mem_of_getElem? (i := 1219) (by decide +kernel), List.mem_of_getElem? (i := 1220) (by decide +kernel)⟩
theorem lw_p63 : lw_okq (⟨"SipMeter$Turns", "spread", "(IIIII)V"⟩, 4) := ⟨⟨by decide +kernel, by decide +kernel⟩, List.mem_of_getElem? (i := 405) (by decide +kernel), List.mem_of_getElem? (i := 1224) (by decide +kernel), List.mem_of_getElem? (i := 1225) (by decide +kernel)⟩
def lw_privs_4 : List (MethodName × Nat) := [(⟨"SipMeter$Runner", "worked", "(I)I"⟩, 18), (⟨"SipMeter$Runner", "single", "(II)I"⟩, 18), (⟨"SipMeter$Runner", "use", "(III)V"⟩, 18), (⟨"SipMeter$Runner", "wakeOf", "(I)I"⟩, 18), (⟨"SipMeter$Runner", "settle", "(II)V"⟩, 18), (⟨"SipMeter$Runner", "bookBusy", "(IIII)V"⟩, 18), (⟨"SipMeter$Runner", "hold", "(II)V"⟩, 18), (⟨"SipMeter$Runner", "free", "(II)V"⟩, 18), (⟨"SipMeter$Runner", "touch", "(I)V"⟩, 18), (⟨"SipMeter$Runner", "finish", "()V"⟩, 18), (⟨"SipMeter", "isPart", "(I)Z"⟩, 14), (⟨"SipMeter", "isLine", "(I)Z"⟩, 14), (⟨"SipMeter", "stretchPlace", "(II)I"⟩, 14), (⟨"SipMeter$Turns", "bitOf", "(I)I"⟩, 4), (⟨"SipMeter$Turns", "rank", "(I)I"⟩, 4), (⟨"SipMeter$Turns", "spread", "(IIIII)V"⟩, 4)]
theorem lw_r4 : ∀ q ∈ lw_privs_4, lw_okq q := List.forall_mem_cons.mpr ⟨lw_p48, List.forall_mem_cons.mpr ⟨lw_p49, List.forall_mem_cons.mpr ⟨lw_p50, List.forall_mem_cons.mpr ⟨lw_p51, List.forall_mem_cons.mpr ⟨lw_p52, List.forall_mem_cons.mpr ⟨lw_p53, List.forall_mem_cons.mpr ⟨lw_p54, List.forall_mem_cons.mpr ⟨lw_p55, List.forall_mem_cons.mpr ⟨lw_p56, List.forall_mem_cons.mpr ⟨lw_p57, List.forall_mem_cons.mpr ⟨lw_p58, List.forall_mem_cons.mpr ⟨lw_p59, List.forall_mem_cons.mpr ⟨lw_p60, List.forall_mem_cons.mpr ⟨lw_p61, List.forall_mem_cons.mpr ⟨lw_p62, List.forall_mem_cons.mpr ⟨lw_p63, fun _ h => absurd h List.not_mem_nil⟩⟩⟩⟩⟩⟩⟩⟩⟩⟩⟩⟩⟩⟩⟩⟩
theorem lw_p64 : lw_okq (⟨"SipMeter$Fits", "ownSips", "(LSipMeter$Machine;II)I"⟩, 7) := ⟨⟨by decide +kernel, by decide +kernel⟩, List.mem_of_getElem? (i := 453) (by decide +kernel), List.mem_of_getElem? (i := 1301) (by decide +kernel), List.mem_of_getElem? (i := 1302) (by decide +kernel)⟩
theorem lw_p65 : lw_okq (⟨"SipMeter$Fits", "differences", "(IIII)I"⟩, 7) := ⟨⟨by decide +kernel, by decide +kernel⟩, List.mem_of_getElem? (i := 453) (by decide +kernel), List.mem_of_getElem? (i := 1305) (by decide +kernel), List.mem_of_getElem? (i := 1306) (by decide +kernel)⟩
theorem lw_p66 : lw_okq (⟨"SipMeter$Asks", "cost", "(III)I"⟩, 8) := ⟨⟨by decide +kernel, by decide +kernel⟩, List.mem_of_getElem? (i := 484) (by decide +kernel), List.mem_of_getElem? (i := 1338) (by decide +kernel), List.mem_of_getElem? (i := 1339) (by decide +kernel)⟩
theorem lw_p67 : lw_okq (⟨"SipMeter$Asks", "sort", "()V"⟩, 8) := ⟨⟨by decide +kernel, by decide +kernel⟩, List.mem_of_getElem? (i := 484) (by decide +kernel), List.mem_of_getElem? (i := 1342) (by decide +kernel), List.mem_of_getElem? (i := 1343) (by decide +kernel)⟩
theorem lw_p68 : lw_okq (⟨"SipMeter$Asks", "shiftSum", "()I"⟩, 8) := ⟨⟨by decide +kernel, by decide +kernel⟩, List.mem_of_getElem? (i := 484) (by decide +kernel), List.mem_of_getElem? (i := 1346) (by decide +kernel), List.mem_of_getElem? (i := 1347) (by decide +kernel)⟩
theorem lw_p69 : lw_okq (⟨"SipMeter$Asks", "turnOn", "()Z"⟩, 8) := ⟨⟨by decide +kernel, by decide +kernel⟩, List.mem_of_getElem? (i := 484) (by decide +kernel), List.mem_of_getElem? (i := 1351) (by decide +kernel), List.mem_of_getElem? (i := 1352) (by decide +kernel)⟩
theorem lw_p70 : lw_okq (⟨"SipMeter$Program", "heldBehind", "(I)I"⟩, 13) := ⟨⟨by decide +kernel, by decide +kernel⟩, List.mem_of_getElem? (i := 99) (by decide +kernel), List.mem_of_getElem? (i := 1368) (by decide +kernel), List.mem_of_getElem? (i := 1369) (by decide +kernel)⟩
theorem lw_p71 : lw_okq (⟨"SipMeter$Program", "spread", "(II)Z"⟩, 13) := ⟨⟨by decide +kernel, by decide +kernel⟩, List.mem_of_getElem? (i := 99) (by decide +kernel), List.mem_of_getElem? (i := 1372) (by decide +kernel), List.mem_of_getElem? (i := 1373) (by decide +kernel)⟩
theorem lw_p72 : lw_okq (⟨"SipMeterModel", "put", "(I)V"⟩, 121) := ⟨⟨by decide +kernel, by decide +kernel⟩, List.mem_of_getElem? (i := 1386) (by decide +kernel), List.mem_of_getElem? (i := 1761) (by decide +kernel), List.mem_of_getElem? (i := 1762) (by decide +kernel)⟩
theorem lw_p73 : lw_okq (⟨"SipMeterModel", "next", "()V"⟩, 121) := ⟨⟨by decide +kernel, by decide +kernel⟩, List.mem_of_getElem? (i := 1386) (by decide +kernel), List.mem_of_getElem? (i := 1773) (by decide +kernel), List.mem_of_getElem? (i := 1774) (by decide +kernel)⟩
theorem lw_p74 : lw_okq (⟨"SipMeterModel", "blame", "(II)V"⟩, 121) := ⟨⟨by decide +kernel, by decide +kernel⟩, List.mem_of_getElem? (i := 1386) (by decide +kernel), List.mem_of_getElem? (i := 1783) (by decide +kernel), List.mem_of_getElem? (i := 1784) (by decide +kernel)⟩
theorem lw_p75 : lw_okq (⟨"SipMeterModel", "declares", "()Z"⟩, 121) := ⟨⟨by decide +kernel, by decide +kernel⟩, List.mem_of_getElem? (i := 1386) (by decide +kernel), List.mem_of_getElem? (i := 1787) (by decide +kernel), List.mem_of_getElem? (i := 1788) (by decide +kernel)⟩
theorem lw_p76 : lw_okq (⟨"SipMeterModel", "isWord", "(J)Z"⟩, 121) := ⟨⟨by decide +kernel, by decide +kernel⟩, List.mem_of_getElem? (i := 1386) (by decide +kernel), List.mem_of_getElem? (i := 1792) (by decide +kernel), List.mem_of_getElem? (i := 1793) (by decide +kernel)⟩
theorem lw_p77 : lw_okq (⟨"SipMeterModel", "number", "(II)I"⟩, 121) := ⟨⟨by decide +kernel, by decide +kernel⟩, List.mem_of_getElem? (i := 1386) (by decide +kernel), List.mem_of_getElem? (i := 1796) (by decide +kernel), List.mem_of_getElem? (i := 1797) (by decide +kernel)⟩
theorem lw_p78 : lw_okq (⟨"SipMeterModel", "part", "()V"⟩, 121) := ⟨⟨by decide +kernel, by decide +kernel⟩, List.mem_of_getElem? (i := 1386) (by decide +kernel), List.mem_of_getElem? (i := 1805) (by decide +kernel), List.mem_of_getElem? (i := 1806) (by decide +kernel)⟩
theorem lw_p79 : lw_okq (⟨"SipMeterModel", "counts", "(Z)V"⟩, 121) := ⟨⟨by decide +kernel, by decide +kernel⟩, List.mem_of_getElem? (i := 1386) (by decide +kernel), List.mem_of_getElem? (i := 1809) (by decide +kernel), List.mem_of_getElem? (i := 1810) (by decide +kernel)⟩
def lw_privs_5 : List (MethodName × Nat) := [(⟨"SipMeter$Fits", "ownSips", "(LSipMeter$Machine;II)I"⟩, 7), (⟨"SipMeter$Fits", "differences", "(IIII)I"⟩, 7), (⟨"SipMeter$Asks", "cost", "(III)I"⟩, 8), (⟨"SipMeter$Asks", "sort", "()V"⟩, 8), (⟨"SipMeter$Asks", "shiftSum", "()I"⟩, 8), (⟨"SipMeter$Asks", "turnOn", "()Z"⟩, 8), (⟨"SipMeter$Program", "heldBehind", "(I)I"⟩, 13), (⟨"SipMeter$Program", "spread", "(II)Z"⟩, 13), (⟨"SipMeterModel", "put", "(I)V"⟩, 121), (⟨"SipMeterModel", "next", "()V"⟩, 121), (⟨"SipMeterModel", "blame", "(II)V"⟩, 121), (⟨"SipMeterModel", "declares", "()Z"⟩, 121), (⟨"SipMeterModel", "isWord", "(J)Z"⟩, 121), (⟨"SipMeterModel", "number", "(II)I"⟩, 121), (⟨"SipMeterModel", "part", "()V"⟩, 121), (⟨"SipMeterModel", "counts", "(Z)V"⟩, 121)]
theorem lw_r5 : ∀ q ∈ lw_privs_5, lw_okq q := List.forall_mem_cons.mpr ⟨lw_p64, List.forall_mem_cons.mpr ⟨lw_p65, List.forall_mem_cons.mpr ⟨lw_p66, List.forall_mem_cons.mpr ⟨lw_p67, List.forall_mem_cons.mpr ⟨lw_p68, List.forall_mem_cons.mpr ⟨lw_p69, List.forall_mem_cons.mpr ⟨lw_p70, List.forall_mem_cons.mpr ⟨lw_p71, List.forall_mem_cons.mpr ⟨lw_p72, List.forall_mem_cons.mpr ⟨lw_p73, List.forall_mem_cons.mpr ⟨lw_p74, List.forall_mem_cons.mpr ⟨lw_p75, List.forall_mem_cons.mpr ⟨lw_p76, List.forall_mem_cons.mpr ⟨lw_p77, List.forall_mem_cons.mpr ⟨lw_p78, List.forall_mem_cons.mpr ⟨lw_p79, fun _ h => absurd h List.not_mem_nil⟩⟩⟩⟩⟩⟩⟩⟩⟩⟩⟩⟩⟩⟩⟩⟩
theorem lw_p80 : lw_okq (⟨"SipMeterModel", "fresh", "()J"⟩, 121) := ⟨⟨by decide +kernel, by decide +kernel⟩, List.mem_of_getElem? (i := 1386) (by decide +kernel), List.mem_of_getElem? (i := 1813) (by decide +kernel), List.mem_of_getElem? (i := 1814) (by decide +kernel)⟩
theorem lw_p81 : lw_okq (⟨"SipMeterModel", "isOwn", "(J)Z"⟩, 121) := ⟨⟨by decide +kernel, by decide +kernel⟩, List.mem_of_getElem? (i := 1386) (by decide +kernel), List.mem_of_getElem? (i := 1817) (by decide +kernel), List.mem_of_getElem? (i := 1818) (by decide +kernel)⟩
theorem lw_p82 : lw_okq (⟨"SipMeterModel", "partOf", "(J)I"⟩, 121) := ⟨⟨by decide +kernel, by decide +kernel⟩, List.mem_of_getElem? (i := 1386) (by decide +kernel), List.mem_of_getElem? (i := 1845) (by decide +kernel), List.mem_of_getElem? (i := 1846) (by decide +kernel)⟩
theorem lw_p83 : lw_okq (⟨"SipMeterModel", "inputOf", "(J)I"⟩, 121) := ⟨⟨by decide +kernel, by decide +kernel⟩, List.mem_of_getElem? (i := 1386) (by decide +kernel), List.mem_of_getElem? (i := 1849) (by decide +kernel), List.mem_of_getElem? (i := 1850) (by decide +kernel)⟩
theorem lw_p84 : lw_okq (⟨"SipMeterModel", "varOf", "(J)I"⟩, 121) := ⟨⟨by decide +kernel, by decide +kernel⟩, List.mem_of_getElem? (i := 1386) (by decide +kernel), List.mem_of_getElem? (i := 1853) (by decide +kernel), List.mem_of_getElem? (i := 1854) (by decide +kernel)⟩
theorem lw_p85 : lw_okq (⟨"SipMeterModel", "must", "(J)V"⟩, 121) := ⟨⟨by decide +kernel, by decide +kernel⟩, List.mem_of_getElem? (i := 1386) (by decide +kernel), List.mem_of_getElem? (i := 1857) (by decide +kernel), List.mem_of_getElem? (i := 1858) (by decide +kernel)⟩
theorem lw_p86 : lw_okq (⟨"SipMeterModel", "input", "()V"⟩, 121) := ⟨⟨by decide +kernel, by decide +kernel⟩, List.mem_of_getElem? (i := 1386) (by decide +kernel), List.mem_of_getElem? (i := 1861) (by decide +kernel), List.mem_of_getElem? (i := 1862) (by decide +kernel)⟩
theorem lw_p87 : lw_okq (⟨"SipMeterModel", "variable", "()V"⟩, 121) := ⟨⟨by decide +kernel, by decide +kernel⟩, List.mem_of_getElem? (i := 1386) (by decide +kernel), List.mem_of_getElem? (i := 1865) (by decide +kernel), List.mem_of_getElem? (i := 1866) (by decide +kernel)⟩
theorem lw_p88 : lw_okq (⟨"SipMeterModel", "must", "(I)V"⟩, 121) := ⟨⟨by decide +kernel, by decide +kernel⟩, List.mem_of_getElem? (i := 1386) (by decide +kernel), List.mem_of_getElem? (i := 1869) (by decide +kernel), List.mem_of_getElem? (i := 1870) (by decide +kernel)⟩
theorem lw_p89 : lw_okq (⟨"SipMeterModel", "isSign", "(I)Z"⟩, 121) := ⟨⟨by decide +kernel, by decide +kernel⟩, List.mem_of_getElem? (i := 1386) (by decide +kernel), List.mem_of_getElem? (i := 1873) (by decide +kernel), List.mem_of_getElem? (i := 1874) (by decide +kernel)⟩
theorem lw_p90 : lw_okq (⟨"SipMeterModel", "closesBlock", "()V"⟩, 121) := ⟨⟨by decide +kernel, by decide +kernel⟩, List.mem_of_getElem? (i := 1386) (by decide +kernel), List.mem_of_getElem? (i := 1877) (by decide +kernel), List.mem_of_getElem? (i := 1878) (by decide +kernel)⟩
theorem lw_p91 : lw_okq (⟨"SipMeterModel", "spot", "(II)I"⟩, 121) := ⟨⟨by decide +kernel, by decide +kernel⟩, List.mem_of_getElem? (i := 1386) (by decide +kernel), List.mem_of_getElem? (i := 1881) (by decide +kernel), List.mem_of_getElem? (i := 1882) (by decide +kernel)⟩
theorem lw_p92 : lw_okq (⟨"SipMeterModel", "opensBlock", "(II)V"⟩, 121) := ⟨⟨by decide +kernel, by decide +kernel⟩, List.mem_of_getElem? (i := 1386) (by decide +kernel), List.mem_of_getElem? (i := 1885) (by decide +kernel), List.mem_of_getElem? (i := 1886) (by decide +kernel)⟩
theorem lw_p93 : lw_okq (⟨"SipMeterModel", "statement", "()V"⟩, 121) := ⟨⟨by decide +kernel, by decide +kernel⟩, List.mem_of_getElem? (i := 1386) (by decide +kernel), List.mem_of_getElem? (i := 1889) (by decide +kernel), List.mem_of_getElem? (i := 1890) (by decide +kernel)⟩
theorem lw_p94 : lw_okq (⟨"SipMeterModel", "order", "()I"⟩, 121) := ⟨⟨by decide +kernel, by decide +kernel⟩, List.mem_of_getElem? (i := 1386) (by decide +kernel), List.mem_of_getElem? (i := 1893) (by decide +kernel), List.mem_of_getElem? (i := 1894) (by decide +kernel)⟩
theorem lw_p95 : lw_okq (⟨"SipMeterModel", "asked", "(I)I"⟩, 121) := ⟨⟨by decide +kernel, by decide +kernel⟩, List.mem_of_getElem? (i := 1386) (by decide +kernel), List.mem_of_getElem? (i := 1897) (by decide +kernel), List.mem_of_getElem? (i := 1898) (by decide +kernel)⟩
def lw_privs_6 : List (MethodName × Nat) := [(⟨"SipMeterModel", "fresh", "()J"⟩, 121), (⟨"SipMeterModel", "isOwn", "(J)Z"⟩, 121), (⟨"SipMeterModel", "partOf", "(J)I"⟩, 121), (⟨"SipMeterModel", "inputOf", "(J)I"⟩, 121), (⟨"SipMeterModel", "varOf", "(J)I"⟩, 121), (⟨"SipMeterModel", "must", "(J)V"⟩, 121), (⟨"SipMeterModel", "input", "()V"⟩, 121), (⟨"SipMeterModel", "variable", "()V"⟩, 121), (⟨"SipMeterModel", "must", "(I)V"⟩, 121), (⟨"SipMeterModel", "isSign", "(I)Z"⟩, 121), (⟨"SipMeterModel", "closesBlock", "()V"⟩, 121), (⟨"SipMeterModel", "spot", "(II)I"⟩, 121), (⟨"SipMeterModel", "opensBlock", "(II)V"⟩, 121), (⟨"SipMeterModel", "statement", "()V"⟩, 121), (⟨"SipMeterModel", "order", "()I"⟩, 121), (⟨"SipMeterModel", "asked", "(I)I"⟩, 121)]
theorem lw_r6 : ∀ q ∈ lw_privs_6, lw_okq q := List.forall_mem_cons.mpr ⟨lw_p80, List.forall_mem_cons.mpr ⟨lw_p81, List.forall_mem_cons.mpr ⟨lw_p82, List.forall_mem_cons.mpr ⟨lw_p83, List.forall_mem_cons.mpr ⟨lw_p84, List.forall_mem_cons.mpr ⟨lw_p85, List.forall_mem_cons.mpr ⟨lw_p86, List.forall_mem_cons.mpr ⟨lw_p87, List.forall_mem_cons.mpr ⟨lw_p88, List.forall_mem_cons.mpr ⟨lw_p89, List.forall_mem_cons.mpr ⟨lw_p90, List.forall_mem_cons.mpr ⟨lw_p91, List.forall_mem_cons.mpr ⟨lw_p92, List.forall_mem_cons.mpr ⟨lw_p93, List.forall_mem_cons.mpr ⟨lw_p94, List.forall_mem_cons.mpr ⟨lw_p95, fun _ h => absurd h List.not_mem_nil⟩⟩⟩⟩⟩⟩⟩⟩⟩⟩⟩⟩⟩⟩⟩⟩
theorem lw_p96 : lw_okq (⟨"SipMeterModel", "reads", "(Z)V"⟩, 121) := ⟨⟨by decide +kernel, by decide +kernel⟩, List.mem_of_getElem? (i := 1386) (by decide +kernel), List.mem_of_getElem? (i := 1901) (by decide +kernel), List.mem_of_getElem? (i := 1902) (by decide +kernel)⟩
theorem lw_p97 : lw_okq (⟨"SipMeterModel", "pushes", "(I)V"⟩, 121) := ⟨⟨by decide +kernel, by decide +kernel⟩, List.mem_of_getElem? (i := 1386) (by decide +kernel), List.mem_of_getElem? (i := 1905) (by decide +kernel), List.mem_of_getElem? (i := 1906) (by decide +kernel)⟩
theorem lw_p98 : lw_okq (⟨"SipMeterModel", "operand", "()Z"⟩, 121) := ⟨⟨by decide +kernel, by decide +kernel⟩, List.mem_of_getElem? (i := 1386) (by decide +kernel), List.mem_of_getElem? (i := 1909) (by decide +kernel), List.mem_of_getElem? (i := 1910) (by decide +kernel)⟩
theorem lw_p99 : lw_okq (⟨"SipMeterModel", "holdsBack", "(I)V"⟩, 121) := ⟨⟨by decide +kernel, by decide +kernel⟩, List.mem_of_getElem? (i := 1386) (by decide +kernel), List.mem_of_getElem? (i := 1916) (by decide +kernel), List.mem_of_getElem? (i := 1917) (by decide +kernel)⟩
theorem lw_p100 : lw_okq (⟨"SipMeterModel", "opens", "(I)V"⟩, 121) := ⟨⟨by decide +kernel, by decide +kernel⟩, List.mem_of_getElem? (i := 1386) (by decide +kernel), List.mem_of_getElem? (i := 1920) (by decide +kernel), List.mem_of_getElem? (i := 1921) (by decide +kernel)⟩
theorem lw_p101 : lw_okq (⟨"SipMeterModel", "add", "(II)V"⟩, 121) := ⟨⟨by decide +kernel, by decide +kernel⟩, List.mem_of_getElem? (i := 1386) (by decide +kernel), List.mem_of_getElem? (i := 1924) (by decide +kernel), List.mem_of_getElem? (i := 1925) (by decide +kernel)⟩
theorem lw_p102 : lw_okq (⟨"SipMeterModel", "goesOn", "()Z"⟩, 121) := ⟨⟨by decide +kernel, by decide +kernel⟩, List.mem_of_getElem? (i := 1386) (by decide +kernel), List.mem_of_getElem? (i := 1928) (by decide +kernel), List.mem_of_getElem? (i := 1929) (by decide +kernel)⟩
theorem lw_p103 : lw_okq (⟨"SipMeterModel", "joins", "(I)V"⟩, 121) := ⟨⟨by decide +kernel, by decide +kernel⟩, List.mem_of_getElem? (i := 1386) (by decide +kernel), List.mem_of_getElem? (i := 1932) (by decide +kernel), List.mem_of_getElem? (i := 1933) (by decide +kernel)⟩
theorem lw_p104 : lw_okq (⟨"SipMeterModel", "isPart", "(I)Z"⟩, 121) := ⟨⟨by decide +kernel, by decide +kernel⟩, List.mem_of_getElem? (i := 1386) (by decide +kernel), List.mem_of_getElem? (i := 1951) (by decide +kernel), List.mem_of_getElem? (i := 1952) (by decide +kernel)⟩
theorem lw_p105 : lw_okq (⟨"SipMeterModel", "isInput", "(I)Z"⟩, 121) := ⟨⟨by decide +kernel, by decide +kernel⟩, List.mem_of_getElem? (i := 1386) (by decide +kernel), List.mem_of_getElem? (i := 1959) (by decide +kernel), List.mem_of_getElem? (i := 1960) (by decide +kernel)⟩
theorem lw_p106 : lw_okq (⟨"SipMeterModel", "runs", "(J)I"⟩, 121) := ⟨⟨by decide +kernel, by decide +kernel⟩, List.mem_of_getElem? (i := 1386) (by decide +kernel), List.mem_of_getElem? (i := 1971) (by decide +kernel), List.mem_of_getElem? (i := 1972) (by decide +kernel)⟩
theorem lw_p107 : lw_okq (⟨"SipMeterModel", "tick", "(I)Z"⟩, 121) := ⟨⟨by decide +kernel, by decide +kernel⟩, List.mem_of_getElem? (i := 1386) (by decide +kernel), List.mem_of_getElem? (i := 1975) (by decide +kernel), List.mem_of_getElem? (i := 1976) (by decide +kernel)⟩
theorem lw_p108 : lw_okq (⟨"SipMeterModel", "stateOf", "(I)I"⟩, 121) := ⟨⟨by decide +kernel, by decide +kernel⟩, List.mem_of_getElem? (i := 1386) (by decide +kernel), List.mem_of_getElem? (i := 1979) (by decide +kernel), List.mem_of_getElem? (i := 1980) (by decide +kernel)⟩
theorem lw_p109 : lw_okq (⟨"SipMeterModel", "sips", "(II)I"⟩, 121) := ⟨⟨by decide +kernel, by decide +kernel⟩, List.mem_of_getElem? (i := 1386) (by decide +kernel), List.mem_of_getElem? (i := 1983) (by decide +kernel), List.mem_of_getElem? (i := 1984) (by decide +kernel)⟩
theorem lw_p110 : lw_okq (⟨"SipMeterModel", "sleeps", "(I)I"⟩, 121) := ⟨⟨by decide +kernel, by decide +kernel⟩, List.mem_of_getElem? (i := 1386) (by decide +kernel), List.mem_of_getElem? (i := 1987) (by decide +kernel), List.mem_of_getElem? (i := 1988) (by decide +kernel)⟩
theorem lw_p111 : lw_okq (⟨"SipMeterModel", "rate", "(II)I"⟩, 121) := ⟨⟨by decide +kernel, by decide +kernel⟩, List.mem_of_getElem? (i := 1386) (by decide +kernel), List.mem_of_getElem? (i := 1991) (by decide +kernel), List.mem_of_getElem? (i := 1992) (by decide +kernel)⟩
def lw_privs_7 : List (MethodName × Nat) := [(⟨"SipMeterModel", "reads", "(Z)V"⟩, 121), (⟨"SipMeterModel", "pushes", "(I)V"⟩, 121), (⟨"SipMeterModel", "operand", "()Z"⟩, 121), (⟨"SipMeterModel", "holdsBack", "(I)V"⟩, 121), (⟨"SipMeterModel", "opens", "(I)V"⟩, 121), (⟨"SipMeterModel", "add", "(II)V"⟩, 121), (⟨"SipMeterModel", "goesOn", "()Z"⟩, 121), (⟨"SipMeterModel", "joins", "(I)V"⟩, 121), (⟨"SipMeterModel", "isPart", "(I)Z"⟩, 121), (⟨"SipMeterModel", "isInput", "(I)Z"⟩, 121), (⟨"SipMeterModel", "runs", "(J)I"⟩, 121), (⟨"SipMeterModel", "tick", "(I)Z"⟩, 121), (⟨"SipMeterModel", "stateOf", "(I)I"⟩, 121), (⟨"SipMeterModel", "sips", "(II)I"⟩, 121), (⟨"SipMeterModel", "sleeps", "(I)I"⟩, 121), (⟨"SipMeterModel", "rate", "(II)I"⟩, 121)]
theorem lw_r7 : ∀ q ∈ lw_privs_7, lw_okq q := List.forall_mem_cons.mpr ⟨lw_p96, List.forall_mem_cons.mpr ⟨lw_p97, List.forall_mem_cons.mpr ⟨lw_p98, List.forall_mem_cons.mpr ⟨lw_p99, List.forall_mem_cons.mpr ⟨lw_p100, List.forall_mem_cons.mpr ⟨lw_p101, List.forall_mem_cons.mpr ⟨lw_p102, List.forall_mem_cons.mpr ⟨lw_p103, List.forall_mem_cons.mpr ⟨lw_p104, List.forall_mem_cons.mpr ⟨lw_p105, List.forall_mem_cons.mpr ⟨lw_p106, List.forall_mem_cons.mpr ⟨lw_p107, List.forall_mem_cons.mpr ⟨lw_p108, List.forall_mem_cons.mpr ⟨lw_p109, List.forall_mem_cons.mpr ⟨lw_p110, List.forall_mem_cons.mpr ⟨lw_p111, fun _ h => absurd h List.not_mem_nil⟩⟩⟩⟩⟩⟩⟩⟩⟩⟩⟩⟩⟩⟩⟩⟩
theorem lw_p112 : lw_okq (⟨"SipMeterModel", "works", "(I)J"⟩, 121) := ⟨⟨by decide +kernel, by decide +kernel⟩, List.mem_of_getElem? (i := 1386) (by decide +kernel), List.mem_of_getElem? (i := 1995) (by decide +kernel), List.mem_of_getElem? (i := 1996) (by decide +kernel)⟩
theorem lw_p113 : lw_okq (⟨"SipMeterModel", "leaf", "(II)J"⟩, 121) := ⟨⟨by decide +kernel, by decide +kernel⟩, List.mem_of_getElem? (i := 1386) (by decide +kernel), List.mem_of_getElem? (i := 1999) (by decide +kernel), List.mem_of_getElem? (i := 2000) (by decide +kernel)⟩
theorem lw_p114 : lw_okq (⟨"SipMeterModel", "does", "(I)Z"⟩, 121) := ⟨⟨by decide +kernel, by decide +kernel⟩, List.mem_of_getElem? (i := 1386) (by decide +kernel), List.mem_of_getElem? (i := 2014) (by decide +kernel), List.mem_of_getElem? (i := 2015) (by decide +kernel)⟩
theorem lw_p115 : lw_okq (⟨"SipMeterModel", "uses", "(III)Z"⟩, 121) := ⟨⟨by decide +kernel, by decide +kernel⟩, List.mem_of_getElem? (i := 1386) (by decide +kernel), List.mem_of_getElem? (i := 2021) (by decide +kernel), List.mem_of_getElem? (i := 2022) (by decide +kernel)⟩
theorem lw_p116 : lw_okq (⟨"SipMeterModel", "wakes", "(I)I"⟩, 121) := ⟨⟨by decide +kernel, by decide +kernel⟩, List.mem_of_getElem? (i := 1386) (by decide +kernel), List.mem_of_getElem? (i := 2025) (by decide +kernel), List.mem_of_getElem? (i := 2026) (by decide +kernel)⟩
theorem lw_p117 : lw_okq (⟨"SipMeterModel", "ticksOf", "(IIIIZI)Z"⟩, 121) := ⟨⟨by decide +kernel, by decide +kernel⟩, List.mem_of_getElem? (i := 1386) (by decide +kernel), List.mem_of_getElem? (i := 2029) (by decide +kernel), List.mem_of_getElem? (i := 2030) (by decide +kernel)⟩
theorem lw_p118 : lw_okq (⟨"SipMeterModel", "acts", "(III)V"⟩, 121) := ⟨⟨by decide +kernel, by decide +kernel⟩, List.mem_of_getElem? (i := 1386) (by decide +kernel), List.mem_of_getElem? (i := 2033) (by decide +kernel), List.mem_of_getElem? (i := 2034) (by decide +kernel)⟩
theorem lw_p119 : lw_okq (⟨"SipMeterModel", "tails", "(I)I"⟩, 121) := ⟨⟨by decide +kernel, by decide +kernel⟩, List.mem_of_getElem? (i := 1386) (by decide +kernel), List.mem_of_getElem? (i := 2037) (by decide +kernel), List.mem_of_getElem? (i := 2038) (by decide +kernel)⟩
theorem lw_p120 : lw_okq (⟨"SipMeterModel", "holds", "(II)Z"⟩, 121) := ⟨⟨by decide +kernel, by decide +kernel⟩, List.mem_of_getElem? (i := 1386) (by decide +kernel), List.mem_of_getElem? (i := 2041) (by decide +kernel), List.mem_of_getElem? (i := 2042) (by decide +kernel)⟩
theorem lw_p121 : lw_okq (⟨"SipMeterModel", "frees", "(II)V"⟩, 121) := ⟨⟨by decide +kernel, by decide +kernel⟩, List.mem_of_getElem? (i := 1386) (by decide +kernel), List.mem_of_getElem? (i := 2045) (by decide +kernel), List.mem_of_getElem? (i := 2046) (by decide +kernel)⟩
theorem lw_p122 : lw_okq (⟨"SipMeterModel", "touches", "(II)Z"⟩, 121) := ⟨⟨by decide +kernel, by decide +kernel⟩, List.mem_of_getElem? (i := 1386) (by decide +kernel), List.mem_of_getElem? (i := 2050) (by decide +kernel), List.mem_of_getElem? (i := 2051) (by decide +kernel)⟩
theorem lw_p123 : lw_okq (⟨"SipMeterModel", "finds", "(II)Z"⟩, 121) := ⟨⟨by decide +kernel, by decide +kernel⟩, List.mem_of_getElem? (i := 1386) (by decide +kernel), List.mem_of_getElem? (i := 2071) (by decide +kernel), List.mem_of_getElem? (i := 2072) (by decide +kernel)⟩
theorem lw_p124 : lw_okq (⟨"SipMeterModel", "stateAt", "(II)I"⟩, 121) := ⟨⟨by decide +kernel, by decide +kernel⟩, List.mem_of_getElem? (i := 1386) (by decide +kernel), List.mem_of_getElem? (i := 2075) (by decide +kernel), List.mem_of_getElem? (i := 2076) (by decide +kernel)⟩
theorem lw_p125 : lw_okq (⟨"SipMeterModel", "onIn", "(I)I"⟩, 121) := ⟨⟨by decide +kernel, by decide +kernel⟩, List.mem_of_getElem? (i := 1386) (by decide +kernel), List.mem_of_getElem? (i := 2083) (by decide +kernel), List.mem_of_getElem? (i := 2084) (by decide +kernel)⟩
theorem lw_p126 : lw_okq (⟨"SipMeterModel", "linesIn", "(I)J"⟩, 121) := ⟨⟨by decide +kernel, by decide +kernel⟩, List.mem_of_getElem? (i := 1386) (by decide +kernel), List.mem_of_getElem? (i := 2091) (by decide +kernel), List.mem_of_getElem? (i := 2092) (by decide +kernel)⟩
theorem lw_p127 : lw_okq (⟨"SipMeterModel", "isLine", "(I)Z"⟩, 121) := ⟨⟨by decide +kernel, by decide +kernel⟩, List.mem_of_getElem? (i := 1386) (by decide +kernel), List.mem_of_getElem? (i := 2099) (by decide +kernel), List.mem_of_getElem? (i := 2100) (by decide +kernel)⟩
def lw_privs_8 : List (MethodName × Nat) := [(⟨"SipMeterModel", "works", "(I)J"⟩, 121), (⟨"SipMeterModel", "leaf", "(II)J"⟩, 121), (⟨"SipMeterModel", "does", "(I)Z"⟩, 121), (⟨"SipMeterModel", "uses", "(III)Z"⟩, 121), (⟨"SipMeterModel", "wakes", "(I)I"⟩, 121), (⟨"SipMeterModel", "ticksOf", "(IIIIZI)Z"⟩, 121), (⟨"SipMeterModel", "acts", "(III)V"⟩, 121), (⟨"SipMeterModel", "tails", "(I)I"⟩, 121), (⟨"SipMeterModel", "holds", "(II)Z"⟩, 121), (⟨"SipMeterModel", "frees", "(II)V"⟩, 121), (⟨"SipMeterModel", "touches", "(II)Z"⟩, 121), (⟨"SipMeterModel", "finds", "(II)Z"⟩, 121), (⟨"SipMeterModel", "stateAt", "(II)I"⟩, 121), (⟨"SipMeterModel", "onIn", "(I)I"⟩, 121), (⟨"SipMeterModel", "linesIn", "(I)J"⟩, 121), (⟨"SipMeterModel", "isLine", "(I)Z"⟩, 121)]
theorem lw_r8 : ∀ q ∈ lw_privs_8, lw_okq q := List.forall_mem_cons.mpr ⟨lw_p112, List.forall_mem_cons.mpr ⟨lw_p113, List.forall_mem_cons.mpr ⟨lw_p114, List.forall_mem_cons.mpr ⟨lw_p115, List.forall_mem_cons.mpr ⟨lw_p116, List.forall_mem_cons.mpr ⟨lw_p117, List.forall_mem_cons.mpr ⟨lw_p118, List.forall_mem_cons.mpr ⟨lw_p119, List.forall_mem_cons.mpr ⟨lw_p120, List.forall_mem_cons.mpr ⟨lw_p121, List.forall_mem_cons.mpr ⟨lw_p122, List.forall_mem_cons.mpr ⟨lw_p123, List.forall_mem_cons.mpr ⟨lw_p124, List.forall_mem_cons.mpr ⟨lw_p125, List.forall_mem_cons.mpr ⟨lw_p126, List.forall_mem_cons.mpr ⟨lw_p127, fun _ h => absurd h List.not_mem_nil⟩⟩⟩⟩⟩⟩⟩⟩⟩⟩⟩⟩⟩⟩⟩⟩
theorem lw_p128 : lw_okq (⟨"SipMeterModel", "sharesOf", "(II)J"⟩, 121) := ⟨⟨by decide +kernel, by decide +kernel⟩, List.mem_of_getElem? (i := 1386) (by decide +kernel), List.mem_of_getElem? (i := 2103) (by decide +kernel), List.mem_of_getElem? (i := 2104) (by decide +kernel)⟩
theorem lw_p129 : lw_okq (⟨"SipMeterModel", "costOf", "(II)J"⟩, 121) := ⟨⟨by decide +kernel, by decide +kernel⟩, List.mem_of_getElem? (i := 1386) (by decide +kernel), List.mem_of_getElem? (i := 2119) (by decide +kernel), List.mem_of_getElem? (i := 2120) (by decide +kernel)⟩
theorem lw_p130 : lw_okq (⟨"SipMeterModel", "isAmong", "(II)Z"⟩, 121) := ⟨⟨by decide +kernel, by decide +kernel⟩, List.mem_of_getElem? (i := 1386) (by decide +kernel), List.mem_of_getElem? (i := 2123) (by decide +kernel), List.mem_of_getElem? (i := 2124) (by decide +kernel)⟩
theorem lw_p131 : lw_okq (⟨"SipMeterModel", "rows", "(III)J"⟩, 121) := ⟨⟨by decide +kernel, by decide +kernel⟩, List.mem_of_getElem? (i := 1386) (by decide +kernel), List.mem_of_getElem? (i := 2127) (by decide +kernel), List.mem_of_getElem? (i := 2128) (by decide +kernel)⟩
theorem lw_p132 : lw_okq (⟨"SipMeterModel", "span", "(I)I"⟩, 121) := ⟨⟨by decide +kernel, by decide +kernel⟩, List.mem_of_getElem? (i := 1386) (by decide +kernel), List.mem_of_getElem? (i := 2141) (by decide +kernel), List.mem_of_getElem? (i := 2142) (by decide +kernel)⟩
theorem lw_p133 : lw_okq (⟨"SipMeterModel", "lowOf", "(I)I"⟩, 121) := ⟨⟨by decide +kernel, by decide +kernel⟩, List.mem_of_getElem? (i := 1386) (by decide +kernel), List.mem_of_getElem? (i := 2145) (by decide +kernel), List.mem_of_getElem? (i := 2146) (by decide +kernel)⟩
theorem lw_p134 : lw_okq (⟨"SipMeterModel", "asksCost", "(I)J"⟩, 121) := ⟨⟨by decide +kernel, by decide +kernel⟩, List.mem_of_getElem? (i := 1386) (by decide +kernel), List.mem_of_getElem? (i := 2179) (by decide +kernel), List.mem_of_getElem? (i := 2180) (by decide +kernel)⟩
def lw_privs_9 : List (MethodName × Nat) := [(⟨"SipMeterModel", "sharesOf", "(II)J"⟩, 121), (⟨"SipMeterModel", "costOf", "(II)J"⟩, 121), (⟨"SipMeterModel", "isAmong", "(II)Z"⟩, 121), (⟨"SipMeterModel", "rows", "(III)J"⟩, 121), (⟨"SipMeterModel", "span", "(I)I"⟩, 121), (⟨"SipMeterModel", "lowOf", "(I)I"⟩, 121), (⟨"SipMeterModel", "asksCost", "(I)J"⟩, 121)]
theorem lw_r9 : ∀ q ∈ lw_privs_9, lw_okq q := List.forall_mem_cons.mpr ⟨lw_p128, List.forall_mem_cons.mpr ⟨lw_p129, List.forall_mem_cons.mpr ⟨lw_p130, List.forall_mem_cons.mpr ⟨lw_p131, List.forall_mem_cons.mpr ⟨lw_p132, List.forall_mem_cons.mpr ⟨lw_p133, List.forall_mem_cons.mpr ⟨lw_p134, fun _ h => absurd h List.not_mem_nil⟩⟩⟩⟩⟩⟩⟩
def lw_privs : List (MethodName × Nat) := lw_privs_1 ++ (lw_privs_2 ++ (lw_privs_3 ++ (lw_privs_4 ++ (lw_privs_5 ++ (lw_privs_6 ++ (lw_privs_7 ++ (lw_privs_8 ++ (lw_privs_9))))))))
def lw_tbl : List Cond := k2_sels lw_privs ++ tables_1
theorem lw_privs_ok : ∀ q ∈ lw_privs, lw_okq q := by
  show ∀ q ∈ lw_privs_1 ++ (lw_privs_2 ++ (lw_privs_3 ++ (lw_privs_4 ++ (lw_privs_5 ++ (lw_privs_6 ++ (lw_privs_7 ++ (lw_privs_8 ++ (lw_privs_9)))))))), lw_okq q
  exact List.forall_mem_append.mpr ⟨lw_r1, List.forall_mem_append.mpr ⟨lw_r2, List.forall_mem_append.mpr ⟨lw_r3, List.forall_mem_append.mpr ⟨lw_r4, List.forall_mem_append.mpr ⟨lw_r5, List.forall_mem_append.mpr ⟨lw_r6, List.forall_mem_append.mpr ⟨lw_r7, List.forall_mem_append.mpr ⟨lw_r8, lw_r9⟩⟩⟩⟩⟩⟩⟩⟩
-- ===== names, out of the printed ones =====
def RX0 : String := "SipMeter$Asks"
def TX0 : u_T := fun k => match k with
  | 0 => ("SipMeter$Asks", "count", "I", false)
  | 1 => ("SipMeter$Asks", "ticks", "[I", true)
  | 2 => ("SipMeter$Asks", "sizes", "[I", true)
  | 3 => ("SipMeter$Asks", "slacks", "[I", true)
  | 4 => ("SipMeter$Asks", "shifts", "[I", true)
  | 5 => ("SipMeter$Asks", "order", "[I", true)
  | 6 => ("SipMeter$Asks", "best", "[I", true)
  | _ => ("SipMeter$Asks", "arranged", "I", false)
def tyX0 : Nat → FieldType := fun k => match k with
  | 0 => .int
  | 1 => .array .int
  | 2 => .array .int
  | 3 => .array .int
  | 4 => .array .int
  | 5 => .array .int
  | 6 => .array .int
  | _ => .int
theorem nmX0 : ∀ a, a < 8 → ∀ b, b < 8 → a ≠ b → (TX0 a).2.1 ≠ (TX0 b).2.1 := by decide +kernel
theorem tyX0_ok : ∀ k, k < 8 → parseFieldDescriptor (TX0 k).2.2.1 = some (tyX0 k) := by decide +kernel
abbrev cX0_init : ByteArray := prog_2_method_1_code
def yX0_init : MethodName := ⟨RX0, "<init>", "()V"⟩
abbrev cX0_add : ByteArray := prog_2_method_2_code
def yX0_add : MethodName := ⟨RX0, "add", "(III)Z"⟩
abbrev cX0_arrange : ByteArray := prog_2_method_3_code
def yX0_arrange : MethodName := ⟨RX0, "arrange", "(III)I"⟩
abbrev cX0_turnOn : ByteArray := prog_2_method_4_code
def yX0_turnOn : MethodName := ⟨RX0, "turnOn", "()Z"⟩
abbrev cX0_shiftSum : ByteArray := prog_2_method_5_code
def yX0_shiftSum : MethodName := ⟨RX0, "shiftSum", "()I"⟩
abbrev cX0_cost : ByteArray := prog_2_method_6_code
def yX0_cost : MethodName := ⟨RX0, "cost", "(III)I"⟩
abbrev cX0_sort : ByteArray := prog_2_method_7_code
def yX0_sort : MethodName := ⟨RX0, "sort", "()V"⟩
def RX1 : String := "SipMeter$Book"
def TX1 : u_T := fun k => match k with
  | 0 => ("SipMeter$Book", "full", "Z", true)
  | 1 => ("SipMeter$Book", "machine", "LSipMeter$Machine;", false)
  | 2 => ("SipMeter$Book", "spentTicks", "[I", true)
  | 3 => ("SipMeter$Book", "last", "[I", true)
  | 4 => ("SipMeter$Book", "holding", "[I", true)
  | 5 => ("SipMeter$Book", "owed", "[I", true)
  | 6 => ("SipMeter$Book", "owedAsLast", "[I", true)
  | 7 => ("SipMeter$Book", "wastedBy", "[I", true)
  | _ => ("SipMeter$Book", "trail", "LSipMeter$Trail;", true)
def tyX1 : Nat → FieldType := fun k => match k with
  | 0 => .boolean
  | 1 => .object "SipMeter$Machine"
  | 2 => .array .int
  | 3 => .array .int
  | 4 => .array .int
  | 5 => .array .int
  | 6 => .array .int
  | 7 => .array .int
  | _ => .object "SipMeter$Trail"
theorem nmX1 : ∀ a, a < 9 → ∀ b, b < 9 → a ≠ b → (TX1 a).2.1 ≠ (TX1 b).2.1 := by decide +kernel
theorem tyX1_ok : ∀ k, k < 9 → parseFieldDescriptor (TX1 k).2.2.1 = some (tyX1 k) := by decide +kernel
abbrev cX1_init : ByteArray := prog_3_method_1_code
def yX1_init : MethodName := ⟨RX1, "<init>", "(Z)V"⟩
abbrev cX1_begin : ByteArray := prog_3_method_2_code
def yX1_begin : MethodName := ⟨RX1, "begin", "(LSipMeter$Machine;)V"⟩
abbrev cX1_makeRoom : ByteArray := prog_3_method_3_code
def yX1_makeRoom : MethodName := ⟨RX1, "makeRoom", "()V"⟩
abbrev cX1_payHeart : ByteArray := prog_3_method_4_code
def yX1_payHeart : MethodName := ⟨RX1, "payHeart", "(II)V"⟩
abbrev cX1_act : ByteArray := prog_3_method_5_code
def yX1_act : MethodName := ⟨RX1, "act", "(II)V"⟩
abbrev cX1_note : ByteArray := prog_3_method_6_code
def yX1_note : MethodName := ⟨RX1, "note", "(IIII)V"⟩
abbrev cX1_fallAsleep : ByteArray := prog_3_method_7_code
def yX1_fallAsleep : MethodName := ⟨RX1, "fallAsleep", "(I)V"⟩
abbrev cX1_workFor : ByteArray := prog_3_method_8_code
def yX1_workFor : MethodName := ⟨RX1, "workFor", "(IIII)V"⟩
abbrev cX1_holdFor : ByteArray := prog_3_method_9_code
def yX1_holdFor : MethodName := ⟨RX1, "holdFor", "(III)V"⟩
abbrev cX1_letGo : ByteArray := prog_3_method_10_code
def yX1_letGo : MethodName := ⟨RX1, "letGo", "(II)V"⟩
abbrev cX1_sippedAsleep : ByteArray := prog_3_method_11_code
def yX1_sippedAsleep : MethodName := ⟨RX1, "sippedAsleep", "()I"⟩
abbrev cX1_sippedByParts : ByteArray := prog_3_method_12_code
def yX1_sippedByParts : MethodName := ⟨RX1, "sippedByParts", "()I"⟩
abbrev cX1_paysAsLast : ByteArray := prog_3_method_13_code
def yX1_paysAsLast : MethodName := ⟨RX1, "paysAsLast", "(I)I"⟩
abbrev cX1_paysInParts : ByteArray := prog_3_method_14_code
def yX1_paysInParts : MethodName := ⟨RX1, "paysInParts", "(I)I"⟩
abbrev cX1_part : ByteArray := prog_3_method_15_code
def yX1_part : MethodName := ⟨RX1, "part", "(IJI)I"⟩
def RX2 : String := "SipMeter$Fits"
def TX2 : u_T := fun k => match k with
  | 0 => ("SipMeter$Fits", "rows", "I", false)
  | 1 => ("SipMeter$Fits", "known", "Z", false)
  | 2 => ("SipMeter$Fits", "found", "[I", true)
  | 3 => ("SipMeter$Fits", "measured", "[I", true)
  | 4 => ("SipMeter$Fits", "sipped", "[I", true)
  | 5 => ("SipMeter$Fits", "ticks", "[I", true)
  | _ => ("SipMeter$Fits", "apart", "[I", true)
def tyX2 : Nat → FieldType := fun k => match k with
  | 0 => .int
  | 1 => .boolean
  | 2 => .array .int
  | 3 => .array .int
  | 4 => .array .int
  | 5 => .array .int
  | _ => .array .int
theorem nmX2 : ∀ a, a < 7 → ∀ b, b < 7 → a ≠ b → (TX2 a).2.1 ≠ (TX2 b).2.1 := by decide +kernel
theorem tyX2_ok : ∀ k, k < 7 → parseFieldDescriptor (TX2 k).2.2.1 = some (tyX2 k) := by decide +kernel
abbrev cX2_init : ByteArray := prog_4_method_1_code
def yX2_init : MethodName := ⟨RX2, "<init>", "()V"⟩
abbrev cX2_clear : ByteArray := prog_4_method_2_code
def yX2_clear : MethodName := ⟨RX2, "clear", "()V"⟩
abbrev cX2_add : ByteArray := prog_4_method_3_code
def yX2_add : MethodName := ⟨RX2, "add", "(ILSipMeter$Runner;)V"⟩
abbrev cX2_search : ByteArray := prog_4_method_4_code
def yX2_search : MethodName := ⟨RX2, "search", "(LSipMeter$Machine;I)I"⟩
abbrev cX2_ownSips : ByteArray := prog_4_method_5_code
def yX2_ownSips : MethodName := ⟨RX2, "ownSips", "(LSipMeter$Machine;II)I"⟩
abbrev cX2_differences : ByteArray := prog_4_method_6_code
def yX2_differences : MethodName := ⟨RX2, "differences", "(IIII)I"⟩
def RX3 : String := "SipMeter$Machine"
def TX3 : u_T := fun k => match k with
  | 0 => ("SipMeter$Machine", "heart", "I", false)
  | 1 => ("SipMeter$Machine", "sets", "I", false)
  | 2 => ("SipMeter$Machine", "wide", "I", false)
  | 3 => ("SipMeter$Machine", "miss", "I", false)
  | 4 => ("SipMeter$Machine", "counts", "[I", true)
  | 5 => ("SipMeter$Machine", "rates", "[I", true)
  | 6 => ("SipMeter$Machine", "wakeTicks", "[I", true)
  | 7 => ("SipMeter$Machine", "tails", "[I", true)
  | 8 => ("SipMeter$Machine", "least", "[I", true)
  | 9 => ("SipMeter$Machine", "most", "[I", true)
  | 10 => ("SipMeter$Machine", "codes", "[I", true)
  | _ => ("SipMeter$Machine", "program", "LSipMeter$Program;", true)
def tyX3 : Nat → FieldType := fun k => match k with
  | 0 => .int
  | 1 => .int
  | 2 => .int
  | 3 => .int
  | 4 => .array .int
  | 5 => .array .int
  | 6 => .array .int
  | 7 => .array .int
  | 8 => .array .int
  | 9 => .array .int
  | 10 => .array .int
  | _ => .object "SipMeter$Program"
theorem nmX3 : ∀ a, a < 12 → ∀ b, b < 12 → a ≠ b → (TX3 a).2.1 ≠ (TX3 b).2.1 := by decide +kernel
theorem tyX3_ok : ∀ k, k < 12 → parseFieldDescriptor (TX3 k).2.2.1 = some (tyX3 k) := by decide +kernel
abbrev cX3_init : ByteArray := prog_5_method_1_code
def yX3_init : MethodName := ⟨RX3, "<init>", "()V"⟩
abbrev cX3_clear : ByteArray := prog_5_method_2_code
def yX3_clear : MethodName := ⟨RX3, "clear", "()V"⟩
abbrev cX3_isFull : ByteArray := prog_5_method_3_code
def yX3_isFull : MethodName := ⟨RX3, "isFull", "(I)Z"⟩
abbrev cX3_find : ByteArray := prog_5_method_4_code
def yX3_find : MethodName := ⟨RX3, "find", "(I)I"⟩
abbrev cX3_which : ByteArray := prog_5_method_5_code
def yX3_which : MethodName := ⟨RX3, "which", "(II)I"⟩
abbrev cX3_name : ByteArray := prog_5_method_6_code
def yX3_name : MethodName := ⟨RX3, "name", "(II)V"⟩
abbrev cX3_letterOf : ByteArray := prog_5_method_7_code
def yX3_letterOf : MethodName := ⟨RX3, "letterOf", "(III)I"⟩
abbrev cX3_wakeCost : ByteArray := prog_5_method_8_code
def yX3_wakeCost : MethodName := ⟨RX3, "wakeCost", "(I)I"⟩
abbrev cX3_sleepOfAll : ByteArray := prog_5_method_9_code
def yX3_sleepOfAll : MethodName := ⟨RX3, "sleepOfAll", "()I"⟩
def RX4 : String := "SipMeter$Program"
def TX4 : u_T := fun k => match k with
  | 0 => ("SipMeter$Program", "count", "I", false)
  | 1 => ("SipMeter$Program", "kinds", "[I", true)
  | 2 => ("SipMeter$Program", "abouts", "[I", true)
  | 3 => ("SipMeter$Program", "codeFrom", "[I", true)
  | 4 => ("SipMeter$Program", "yes", "[I", true)
  | 5 => ("SipMeter$Program", "no", "[I", true)
  | 6 => ("SipMeter$Program", "siblings", "[I", true)
  | 7 => ("SipMeter$Program", "parents", "[I", true)
  | 8 => ("SipMeter$Program", "after", "[I", true)
  | 9 => ("SipMeter$Program", "ops", "[I", true)
  | 10 => ("SipMeter$Program", "args", "[I", true)
  | 11 => ("SipMeter$Program", "size", "I", false)
  | _ => ("SipMeter$Program", "mayHold", "[I", true)
def tyX4 : Nat → FieldType := fun k => match k with
  | 0 => .int
  | 1 => .array .int
  | 2 => .array .int
  | 3 => .array .int
  | 4 => .array .int
  | 5 => .array .int
  | 6 => .array .int
  | 7 => .array .int
  | 8 => .array .int
  | 9 => .array .int
  | 10 => .array .int
  | 11 => .int
  | _ => .array .int
theorem nmX4 : ∀ a, a < 13 → ∀ b, b < 13 → a ≠ b → (TX4 a).2.1 ≠ (TX4 b).2.1 := by decide +kernel
theorem tyX4_ok : ∀ k, k < 13 → parseFieldDescriptor (TX4 k).2.2.1 = some (tyX4 k) := by decide +kernel
abbrev cX4_init : ByteArray := prog_6_method_1_code
def yX4_init : MethodName := ⟨RX4, "<init>", "()V"⟩
abbrev cX4_clear : ByteArray := prog_6_method_2_code
def yX4_clear : MethodName := ⟨RX4, "clear", "()V"⟩
abbrev cX4_open : ByteArray := prog_6_method_3_code
def yX4_open : MethodName := ⟨RX4, "open", "(II)I"⟩
abbrev cX4_emit : ByteArray := prog_6_method_4_code
def yX4_emit : MethodName := ⟨RX4, "emit", "(II)V"⟩
abbrev cX4_link : ByteArray := prog_6_method_5_code
def yX4_link : MethodName := ⟨RX4, "link", "()V"⟩
abbrev cX4_behind : ByteArray := prog_6_method_6_code
def yX4_behind : MethodName := ⟨RX4, "behind", "(I)I"⟩
abbrev cX4_heldAtEnd : ByteArray := prog_6_method_7_code
def yX4_heldAtEnd : MethodName := ⟨RX4, "heldAtEnd", "()I"⟩
abbrev cX4_heldBehind : ByteArray := prog_6_method_8_code
def yX4_heldBehind : MethodName := ⟨RX4, "heldBehind", "(I)I"⟩
abbrev cX4_spread : ByteArray := prog_6_method_9_code
def yX4_spread : MethodName := ⟨RX4, "spread", "(II)Z"⟩
def RX5 : String := "SipMeter$Reader"
def TX5 : u_T := fun k => match k with
  | 0 => ("SipMeter$Reader", "faultKind", "I", false)
  | 1 => ("SipMeter$Reader", "faultAt", "I", false)
  | 2 => ("SipMeter$Reader", "tokens", "LSipMeter$Tokens;", false)
  | 3 => ("SipMeter$Reader", "machine", "LSipMeter$Machine;", false)
  | 4 => ("SipMeter$Reader", "program", "LSipMeter$Program;", false)
  | 5 => ("SipMeter$Reader", "k", "I", false)
  | _ => ("SipMeter$Reader", "opened", "I", false)
def tyX5 : Nat → FieldType := fun k => match k with
  | 0 => .int
  | 1 => .int
  | 2 => .object "SipMeter$Tokens"
  | 3 => .object "SipMeter$Machine"
  | 4 => .object "SipMeter$Program"
  | 5 => .int
  | _ => .int
theorem nmX5 : ∀ a, a < 7 → ∀ b, b < 7 → a ≠ b → (TX5 a).2.1 ≠ (TX5 b).2.1 := by decide +kernel
theorem tyX5_ok : ∀ k, k < 7 → parseFieldDescriptor (TX5 k).2.2.1 = some (tyX5 k) := by decide +kernel
abbrev cX5_init : ByteArray := prog_7_method_1_code
def yX5_init : MethodName := ⟨RX5, "<init>", "()V"⟩
abbrev cX5_read : ByteArray := prog_7_method_2_code
def yX5_read : MethodName := ⟨RX5, "read", "(LSipMeter$Tokens;LSipMeter$Machine;)Z"⟩
abbrev cX5_refuse : ByteArray := prog_7_method_3_code
def yX5_refuse : MethodName := ⟨RX5, "refuse", "(I)Z"⟩
abbrev cX5_goOn : ByteArray := prog_7_method_4_code
def yX5_goOn : MethodName := ⟨RX5, "goOn", "()Z"⟩
abbrev cX5_isOwn : ByteArray := prog_7_method_5_code
def yX5_isOwn : MethodName := ⟨RX5, "isOwn", "(I)Z"⟩
abbrev cX5_isSign : ByteArray := prog_7_method_6_code
def yX5_isSign : MethodName := ⟨RX5, "isSign", "(C)Z"⟩
abbrev cX5_takeOwn : ByteArray := prog_7_method_7_code
def yX5_takeOwn : MethodName := ⟨RX5, "takeOwn", "(I)Z"⟩
abbrev cX5_takeSign : ByteArray := prog_7_method_8_code
def yX5_takeSign : MethodName := ⟨RX5, "takeSign", "(C)Z"⟩
abbrev cX5_takeOpening : ByteArray := prog_7_method_9_code
def yX5_takeOpening : MethodName := ⟨RX5, "takeOpening", "(C)Z"⟩
abbrev cX5_takeClosing : ByteArray := prog_7_method_10_code
def yX5_takeClosing : MethodName := ⟨RX5, "takeClosing", "(C)Z"⟩
abbrev cX5_takeNumber : ByteArray := prog_7_method_11_code
def yX5_takeNumber : MethodName := ⟨RX5, "takeNumber", "(II)I"⟩
abbrev cX5_takeTold : ByteArray := prog_7_method_12_code
def yX5_takeTold : MethodName := ⟨RX5, "takeTold", "(II)I"⟩
abbrev cX5_takeName : ByteArray := prog_7_method_13_code
def yX5_takeName : MethodName := ⟨RX5, "takeName", "(I)I"⟩
abbrev cX5_declarations : ByteArray := prog_7_method_14_code
def yX5_declarations : MethodName := ⟨RX5, "declarations", "()Z"⟩
abbrev cX5_declaration : ByteArray := prog_7_method_15_code
def yX5_declaration : MethodName := ⟨RX5, "declaration", "(I)Z"⟩
abbrev cX5_heart : ByteArray := prog_7_method_16_code
def yX5_heart : MethodName := ⟨RX5, "heart", "()Z"⟩
abbrev cX5_cache : ByteArray := prog_7_method_17_code
def yX5_cache : MethodName := ⟨RX5, "cache", "()Z"⟩
abbrev cX5_beginNamed : ByteArray := prog_7_method_18_code
def yX5_beginNamed : MethodName := ⟨RX5, "beginNamed", "(I)Z"⟩
abbrev cX5_part : ByteArray := prog_7_method_19_code
def yX5_part : MethodName := ⟨RX5, "part", "()Z"⟩
abbrev cX5_input : ByteArray := prog_7_method_20_code
def yX5_input : MethodName := ⟨RX5, "input", "()Z"⟩
abbrev cX5_isOrder : ByteArray := prog_7_method_21_code
def yX5_isOrder : MethodName := ⟨RX5, "isOrder", "()Z"⟩
abbrev cX5_orders : ByteArray := prog_7_method_22_code
def yX5_orders : MethodName := ⟨RX5, "orders", "(I)I"⟩
abbrev cX5_order : ByteArray := prog_7_method_23_code
def yX5_order : MethodName := ⟨RX5, "order", "(I)Z"⟩
abbrev cX5_about : ByteArray := prog_7_method_24_code
def yX5_about : MethodName := ⟨RX5, "about", "(II)Z"⟩
abbrev cX5_yesBlock : ByteArray := prog_7_method_25_code
def yX5_yesBlock : MethodName := ⟨RX5, "yesBlock", "(I)Z"⟩
abbrev cX5_noBlock : ByteArray := prog_7_method_26_code
def yX5_noBlock : MethodName := ⟨RX5, "noBlock", "(I)Z"⟩
abbrev cX5_block : ByteArray := prog_7_method_27_code
def yX5_block : MethodName := ⟨RX5, "block", "(I)I"⟩
abbrev cX5_test : ByteArray := prog_7_method_28_code
def yX5_test : MethodName := ⟨RX5, "test", "()Z"⟩
abbrev cX5_both : ByteArray := prog_7_method_29_code
def yX5_both : MethodName := ⟨RX5, "both", "()Z"⟩
abbrev cX5_fact : ByteArray := prog_7_method_30_code
def yX5_fact : MethodName := ⟨RX5, "fact", "()Z"⟩
abbrev cX5_plainFact : ByteArray := prog_7_method_31_code
def yX5_plainFact : MethodName := ⟨RX5, "plainFact", "()Z"⟩
abbrev cX5_sum : ByteArray := prog_7_method_32_code
def yX5_sum : MethodName := ⟨RX5, "sum", "()Z"⟩
abbrev cX5_product : ByteArray := prog_7_method_33_code
def yX5_product : MethodName := ⟨RX5, "product", "()Z"⟩
abbrev cX5_piece : ByteArray := prog_7_method_34_code
def yX5_piece : MethodName := ⟨RX5, "piece", "()Z"⟩
abbrev cX5_namedPiece : ByteArray := prog_7_method_35_code
def yX5_namedPiece : MethodName := ⟨RX5, "namedPiece", "()Z"⟩
abbrev cX5_choice : ByteArray := prog_7_method_36_code
def yX5_choice : MethodName := ⟨RX5, "choice", "(I)Z"⟩
def RX6 : String := "SipMeter$Runner"
def TX6 : u_T := fun k => match k with
  | 0 => ("SipMeter$Runner", "book", "LSipMeter$Book;", true)
  | 1 => ("SipMeter$Runner", "machine", "LSipMeter$Machine;", false)
  | 2 => ("SipMeter$Runner", "ins", "[I", true)
  | 3 => ("SipMeter$Runner", "vars", "[I", true)
  | 4 => ("SipMeter$Runner", "stack", "[I", true)
  | 5 => ("SipMeter$Runner", "kept", "[I", true)
  | 6 => ("SipMeter$Runner", "held", "[I", true)
  | 7 => ("SipMeter$Runner", "till", "[I", true)
  | 8 => ("SipMeter$Runner", "booked", "[I", true)
  | 9 => ("SipMeter$Runner", "now", "I", false)
  | 10 => ("SipMeter$Runner", "sipped", "I", false)
  | 11 => ("SipMeter$Runner", "owns", "I", false)
  | 12 => ("SipMeter$Runner", "misses", "I", false)
  | 13 => ("SipMeter$Runner", "touches", "I", false)
  | 14 => ("SipMeter$Runner", "outcome", "I", false)
  | 15 => ("SipMeter$Runner", "cutLine", "I", false)
  | 16 => ("SipMeter$Runner", "hasPurse", "Z", false)
  | _ => ("SipMeter$Runner", "left", "I", false)
def tyX6 : Nat → FieldType := fun k => match k with
  | 0 => .object "SipMeter$Book"
  | 1 => .object "SipMeter$Machine"
  | 2 => .array .int
  | 3 => .array .int
  | 4 => .array .int
  | 5 => .array .int
  | 6 => .array .int
  | 7 => .array .int
  | 8 => .array .int
  | 9 => .int
  | 10 => .int
  | 11 => .int
  | 12 => .int
  | 13 => .int
  | 14 => .int
  | 15 => .int
  | 16 => .boolean
  | _ => .int
theorem nmX6 : ∀ a, a < 18 → ∀ b, b < 18 → a ≠ b → (TX6 a).2.1 ≠ (TX6 b).2.1 := by decide +kernel
theorem tyX6_ok : ∀ k, k < 18 → parseFieldDescriptor (TX6 k).2.2.1 = some (tyX6 k) := by decide +kernel
abbrev cX6_init : ByteArray := prog_8_method_1_code
def yX6_init : MethodName := ⟨RX6, "<init>", "(Z)V"⟩
abbrev cX6_go : ByteArray := prog_8_method_2_code
def yX6_go : MethodName := ⟨RX6, "go", "(LSipMeter$Machine;[II)V"⟩
abbrev cX6_begin : ByteArray := prog_8_method_3_code
def yX6_begin : MethodName := ⟨RX6, "begin", "(LSipMeter$Machine;[II)V"⟩
abbrev cX6_finish : ByteArray := prog_8_method_4_code
def yX6_finish : MethodName := ⟨RX6, "finish", "()V"⟩
abbrev cX6_step : ByteArray := prog_8_method_5_code
def yX6_step : MethodName := ⟨RX6, "step", "(I)I"⟩
abbrev cX6_pass : ByteArray := prog_8_method_6_code
def yX6_pass : MethodName := ⟨RX6, "pass", "(III)I"⟩
abbrev cX6_afforded : ByteArray := prog_8_method_7_code
def yX6_afforded : MethodName := ⟨RX6, "afforded", "(III)I"⟩
abbrev cX6_sipsAt : ByteArray := prog_8_method_8_code
def yX6_sipsAt : MethodName := ⟨RX6, "sipsAt", "(III)I"⟩
abbrev cX6_settle : ByteArray := prog_8_method_9_code
def yX6_settle : MethodName := ⟨RX6, "settle", "(II)V"⟩
abbrev cX6_wakeOf : ByteArray := prog_8_method_10_code
def yX6_wakeOf : MethodName := ⟨RX6, "wakeOf", "(I)I"⟩
abbrev cX6_use : ByteArray := prog_8_method_11_code
def yX6_use : MethodName := ⟨RX6, "use", "(III)V"⟩
abbrev cX6_hold : ByteArray := prog_8_method_12_code
def yX6_hold : MethodName := ⟨RX6, "hold", "(II)V"⟩
abbrev cX6_bookBusy : ByteArray := prog_8_method_13_code
def yX6_bookBusy : MethodName := ⟨RX6, "bookBusy", "(IIII)V"⟩
abbrev cX6_free : ByteArray := prog_8_method_14_code
def yX6_free : MethodName := ⟨RX6, "free", "(II)V"⟩
abbrev cX6_touch : ByteArray := prog_8_method_15_code
def yX6_touch : MethodName := ⟨RX6, "touch", "(I)V"⟩
abbrev cX6_worked : ByteArray := prog_8_method_16_code
def yX6_worked : MethodName := ⟨RX6, "worked", "(I)I"⟩
abbrev cX6_single : ByteArray := prog_8_method_17_code
def yX6_single : MethodName := ⟨RX6, "single", "(II)I"⟩
abbrev cX6_joined : ByteArray := prog_8_method_18_code
def yX6_joined : MethodName := ⟨RX6, "joined", "(III)I"⟩
abbrev cX6_bounded : ByteArray := prog_8_method_19_code
def yX6_bounded : MethodName := ⟨RX6, "bounded", "(J)I"⟩
def RX7 : String := "SipMeter$Tokens"
def TX7 : u_T := fun k => match k with
  | 0 => ("SipMeter$Tokens", "kinds", "[I", true)
  | 1 => ("SipMeter$Tokens", "places", "[I", true)
  | 2 => ("SipMeter$Tokens", "worths", "[I", true)
  | 3 => ("SipMeter$Tokens", "count", "I", false)
  | 4 => ("SipMeter$Tokens", "bytes", "[B", false)
  | _ => ("SipMeter$Tokens", "length", "I", false)
def tyX7 : Nat → FieldType := fun k => match k with
  | 0 => .array .int
  | 1 => .array .int
  | 2 => .array .int
  | 3 => .int
  | 4 => .array .byte
  | _ => .int
theorem nmX7 : ∀ a, a < 6 → ∀ b, b < 6 → a ≠ b → (TX7 a).2.1 ≠ (TX7 b).2.1 := by decide +kernel
theorem tyX7_ok : ∀ k, k < 6 → parseFieldDescriptor (TX7 k).2.2.1 = some (tyX7 k) := by decide +kernel
abbrev cX7_init : ByteArray := prog_9_method_1_code
def yX7_init : MethodName := ⟨RX7, "<init>", "()V"⟩
abbrev cX7_takeApart : ByteArray := prog_9_method_2_code
def yX7_takeApart : MethodName := ⟨RX7, "takeApart", "([BI)V"⟩
abbrev cX7_skipBlanks : ByteArray := prog_9_method_3_code
def yX7_skipBlanks : MethodName := ⟨RX7, "skipBlanks", "(I)I"⟩
abbrev cX7_takeOne : ByteArray := prog_9_method_4_code
def yX7_takeOne : MethodName := ⟨RX7, "takeOne", "(IZ)I"⟩
abbrev cX7_add : ByteArray := prog_9_method_5_code
def yX7_add : MethodName := ⟨RX7, "add", "(IIII)I"⟩
abbrev cX7_isLetter : ByteArray := prog_9_method_6_code
def yX7_isLetter : MethodName := ⟨RX7, "isLetter", "(I)Z"⟩
abbrev cX7_isDigit : ByteArray := prog_9_method_7_code
def yX7_isDigit : MethodName := ⟨RX7, "isDigit", "(I)Z"⟩
abbrev cX7_takeWord : ByteArray := prog_9_method_8_code
def yX7_takeWord : MethodName := ⟨RX7, "takeWord", "(I)I"⟩
abbrev cX7_takeNumber : ByteArray := prog_9_method_9_code
def yX7_takeNumber : MethodName := ⟨RX7, "takeNumber", "(I)I"⟩
abbrev cX7_ownWord : ByteArray := prog_9_method_10_code
def yX7_ownWord : MethodName := ⟨RX7, "ownWord", "(II)I"⟩
abbrev cX7_isOwn : ByteArray := prog_9_method_11_code
def yX7_isOwn : MethodName := ⟨RX7, "isOwn", "(III)Z"⟩
def RX8 : String := "SipMeter$Trail"
def TX8 : u_T := fun k => match k with
  | 0 => ("SipMeter$Trail", "count", "I", false)
  | 1 => ("SipMeter$Trail", "parts", "[I", false)
  | 2 => ("SipMeter$Trail", "from", "[I", false)
  | 3 => ("SipMeter$Trail", "to", "[I", false)
  | 4 => ("SipMeter$Trail", "onTicks", "[I", false)
  | 5 => ("SipMeter$Trail", "users", "[J", false)
  | 6 => ("SipMeter$Trail", "running", "[I", true)
  | 7 => ("SipMeter$Trail", "covers", "I", false)
  | 8 => ("SipMeter$Trail", "coverParts", "[I", false)
  | 9 => ("SipMeter$Trail", "coverLines", "[I", false)
  | 10 => ("SipMeter$Trail", "coverFrom", "[I", false)
  | _ => ("SipMeter$Trail", "coverTo", "[I", false)
def tyX8 : Nat → FieldType := fun k => match k with
  | 0 => .int
  | 1 => .array .int
  | 2 => .array .int
  | 3 => .array .int
  | 4 => .array .int
  | 5 => .array .long
  | 6 => .array .int
  | 7 => .int
  | 8 => .array .int
  | 9 => .array .int
  | 10 => .array .int
  | _ => .array .int
theorem nmX8 : ∀ a, a < 12 → ∀ b, b < 12 → a ≠ b → (TX8 a).2.1 ≠ (TX8 b).2.1 := by decide +kernel
theorem tyX8_ok : ∀ k, k < 12 → parseFieldDescriptor (TX8 k).2.2.1 = some (tyX8 k) := by decide +kernel
abbrev cX8_init : ByteArray := prog_10_method_1_code
def yX8_init : MethodName := ⟨RX8, "<init>", "()V"⟩
abbrev cX8_clear : ByteArray := prog_10_method_2_code
def yX8_clear : MethodName := ⟨RX8, "clear", "()V"⟩
abbrev cX8_makeRoom : ByteArray := prog_10_method_3_code
def yX8_makeRoom : MethodName := ⟨RX8, "makeRoom", "()V"⟩
abbrev cX8_stayUp : ByteArray := prog_10_method_4_code
def yX8_stayUp : MethodName := ⟨RX8, "stayUp", "(IIIIZ)V"⟩
abbrev cX8_join : ByteArray := prog_10_method_5_code
def yX8_join : MethodName := ⟨RX8, "join", "(II)V"⟩
abbrev cX8_cover : ByteArray := prog_10_method_6_code
def yX8_cover : MethodName := ⟨RX8, "cover", "(IIII)I"⟩
abbrev cX8_coverTo : ByteArray := prog_10_method_7_code
def yX8_coverTo : MethodName := ⟨RX8, "coverTo", "(II)V"⟩
abbrev cX8_countOf : ByteArray := prog_10_method_8_code
def yX8_countOf : MethodName := ⟨RX8, "countOf", "(I)I"⟩
abbrev cX8_placeOf : ByteArray := prog_10_method_9_code
def yX8_placeOf : MethodName := ⟨RX8, "placeOf", "(II)I"⟩
def RX9 : String := "SipMeter$Turns"
def TX9 : u_T := fun k => match k with
  | 0 => ("SipMeter$Turns", "costs", "[J", true)
  | 1 => ("SipMeter$Turns", "reach", "[I", true)
  | 2 => ("SipMeter$Turns", "users", "J", false)
  | _ => ("SipMeter$Turns", "weighed", "I", false)
def tyX9 : Nat → FieldType := fun k => match k with
  | 0 => .array .long
  | 1 => .array .int
  | 2 => .long
  | _ => .int
theorem nmX9 : ∀ a, a < 4 → ∀ b, b < 4 → a ≠ b → (TX9 a).2.1 ≠ (TX9 b).2.1 := by decide +kernel
theorem tyX9_ok : ∀ k, k < 4 → parseFieldDescriptor (TX9 k).2.2.1 = some (tyX9 k) := by decide +kernel
abbrev cX9_init : ByteArray := prog_11_method_1_code
def yX9_init : MethodName := ⟨RX9, "<init>", "()V"⟩
abbrev cX9_clear : ByteArray := prog_11_method_2_code
def yX9_clear : MethodName := ⟨RX9, "clear", "()V"⟩
abbrev cX9_weigh : ByteArray := prog_11_method_3_code
def yX9_weigh : MethodName := ⟨RX9, "weigh", "(LSipMeter$Machine;LSipMeter$Trail;I)V"⟩
abbrev cX9_rank : ByteArray := prog_11_method_4_code
def yX9_rank : MethodName := ⟨RX9, "rank", "(I)I"⟩
abbrev cX9_bitOf : ByteArray := prog_11_method_5_code
def yX9_bitOf : MethodName := ⟨RX9, "bitOf", "(I)I"⟩
abbrev cX9_spread : ByteArray := prog_11_method_6_code
def yX9_spread : MethodName := ⟨RX9, "spread", "(IIIII)V"⟩
abbrev cX9_share : ByteArray := prog_11_method_7_code
def yX9_share : MethodName := ⟨RX9, "share", "(IZ)J"⟩
abbrev cX9_commonDivisor : ByteArray := prog_11_method_8_code
def yX9_commonDivisor : MethodName := ⟨RX9, "commonDivisor", "(JJ)J"⟩
def RX10 : String := "SipMeter$Ways"
def TX10 : u_T := fun k => match k with
  | 0 => ("SipMeter$Ways", "looked", "Z", false)
  | 1 => ("SipMeter$Ways", "choseGreatest", "Z", false)
  | 2 => ("SipMeter$Ways", "greatest", "I", false)
  | 3 => ("SipMeter$Ways", "least", "I", false)
  | 4 => ("SipMeter$Ways", "tried", "[I", true)
  | 5 => ("SipMeter$Ways", "greatestAt", "[I", true)
  | _ => ("SipMeter$Ways", "leastAt", "[I", true)
def tyX10 : Nat → FieldType := fun k => match k with
  | 0 => .boolean
  | 1 => .boolean
  | 2 => .int
  | 3 => .int
  | 4 => .array .int
  | 5 => .array .int
  | _ => .array .int
theorem nmX10 : ∀ a, a < 7 → ∀ b, b < 7 → a ≠ b → (TX10 a).2.1 ≠ (TX10 b).2.1 := by decide +kernel
theorem tyX10_ok : ∀ k, k < 7 → parseFieldDescriptor (TX10 k).2.2.1 = some (tyX10 k) := by decide +kernel
abbrev cX10_init : ByteArray := prog_12_method_1_code
def yX10_init : MethodName := ⟨RX10, "<init>", "()V"⟩
abbrev cX10_clear : ByteArray := prog_12_method_2_code
def yX10_clear : MethodName := ⟨RX10, "clear", "()V"⟩
abbrev cX10_count : ByteArray := prog_12_method_3_code
def yX10_count : MethodName := ⟨RX10, "count", "(LSipMeter$Machine;)I"⟩
abbrev cX10_begin : ByteArray := prog_12_method_4_code
def yX10_begin : MethodName := ⟨RX10, "begin", "(LSipMeter$Machine;)I"⟩
abbrev cX10_compare : ByteArray := prog_12_method_5_code
def yX10_compare : MethodName := ⟨RX10, "compare", "(IZ)V"⟩
abbrev cX10_turnOn : ByteArray := prog_12_method_6_code
def yX10_turnOn : MethodName := ⟨RX10, "turnOn", "(LSipMeter$Machine;)V"⟩
abbrev cX10_choose : ByteArray := prog_12_method_7_code
def yX10_choose : MethodName := ⟨RX10, "choose", "(Z)I"⟩
abbrev cX10_chosenInput : ByteArray := prog_12_method_8_code
def yX10_chosenInput : MethodName := ⟨RX10, "chosenInput", "(I)I"⟩
def RX11 : String := "SipMeter"
def TX11 : u_T := fun k => match k with
  | 0 => ("SipMeter", "tape", "[B", true)
  | 1 => ("SipMeter", "taped", "I", false)
  | 2 => ("SipMeter", "tokens", "LSipMeter$Tokens;", true)
  | 3 => ("SipMeter", "reader", "LSipMeter$Reader;", true)
  | 4 => ("SipMeter", "machine", "LSipMeter$Machine;", false)
  | 5 => ("SipMeter", "draft", "LSipMeter$Machine;", false)
  | 6 => ("SipMeter", "puts", "[I", true)
  | 7 => ("SipMeter", "latest", "LSipMeter$Runner;", true)
  | 8 => ("SipMeter", "trial", "LSipMeter$Runner;", true)
  | 9 => ("SipMeter", "hasRun", "Z", false)
  | 10 => ("SipMeter", "turns", "LSipMeter$Turns;", true)
  | 11 => ("SipMeter", "ways", "LSipMeter$Ways;", true)
  | 12 => ("SipMeter", "fits", "LSipMeter$Fits;", true)
  | _ => ("SipMeter", "asks", "LSipMeter$Asks;", true)
def tyX11 : Nat → FieldType := fun k => match k with
  | 0 => .array .byte
  | 1 => .int
  | 2 => .object "SipMeter$Tokens"
  | 3 => .object "SipMeter$Reader"
  | 4 => .object "SipMeter$Machine"
  | 5 => .object "SipMeter$Machine"
  | 6 => .array .int
  | 7 => .object "SipMeter$Runner"
  | 8 => .object "SipMeter$Runner"
  | 9 => .boolean
  | 10 => .object "SipMeter$Turns"
  | 11 => .object "SipMeter$Ways"
  | 12 => .object "SipMeter$Fits"
  | _ => .object "SipMeter$Asks"
theorem nmX11 : ∀ a, a < 14 → ∀ b, b < 14 → a ≠ b → (TX11 a).2.1 ≠ (TX11 b).2.1 := by decide +kernel
theorem tyX11_ok : ∀ k, k < 14 → parseFieldDescriptor (TX11 k).2.2.1 = some (tyX11 k) := by decide +kernel
abbrev cX11_init : ByteArray := prog_1_method_1_code
def yX11_init : MethodName := ⟨RX11, "<init>", "()V"⟩
abbrev cX11_feed : ByteArray := prog_1_method_2_code
def yX11_feed : MethodName := ⟨RX11, "feed", "(IIIII)I"⟩
abbrev cX11_lay : ByteArray := prog_1_method_3_code
def yX11_lay : MethodName := ⟨RX11, "lay", "(I)V"⟩
abbrev cX11_end : ByteArray := prog_1_method_4_code
def yX11_end : MethodName := ⟨RX11, "end", "(I)Z"⟩
abbrev cX11_text : ByteArray := prog_1_method_5_code
def yX11_text : MethodName := ⟨RX11, "text", "()I"⟩
abbrev cX11_fault : ByteArray := prog_1_method_6_code
def yX11_fault : MethodName := ⟨RX11, "fault", "(I)I"⟩
abbrev cX11_has : ByteArray := prog_1_method_7_code
def yX11_has : MethodName := ⟨RX11, "has", "(I)I"⟩
abbrev cX11_letter : ByteArray := prog_1_method_8_code
def yX11_letter : MethodName := ⟨RX11, "letter", "(III)I"⟩
abbrev cX11_put : ByteArray := prog_1_method_9_code
def yX11_put : MethodName := ⟨RX11, "put", "(II)Z"⟩
abbrev cX11_run : ByteArray := prog_1_method_10_code
def yX11_run : MethodName := ⟨RX11, "run", "(I)I"⟩
abbrev cX11_ran : ByteArray := prog_1_method_11_code
def yX11_ran : MethodName := ⟨RX11, "ran", "(I)I"⟩
abbrev cX11_value : ByteArray := prog_1_method_12_code
def yX11_value : MethodName := ⟨RX11, "value", "(I)I"⟩
abbrev cX11_spent : ByteArray := prog_1_method_13_code
def yX11_spent : MethodName := ⟨RX11, "spent", "(II)I"⟩
abbrev cX11_isPart : ByteArray := prog_1_method_14_code
def yX11_isPart : MethodName := ⟨RX11, "isPart", "(I)Z"⟩
abbrev cX11_isLine : ByteArray := prog_1_method_15_code
def yX11_isLine : MethodName := ⟨RX11, "isLine", "(I)Z"⟩
abbrev cX11_pays : ByteArray := prog_1_method_16_code
def yX11_pays : MethodName := ⟨RX11, "pays", "(II)I"⟩
abbrev cX11_stretches : ByteArray := prog_1_method_17_code
def yX11_stretches : MethodName := ⟨RX11, "stretches", "(I)I"⟩
abbrev cX11_stretchPlace : ByteArray := prog_1_method_18_code
def yX11_stretchPlace : MethodName := ⟨RX11, "stretchPlace", "(II)I"⟩
abbrev cX11_stretch : ByteArray := prog_1_method_19_code
def yX11_stretch : MethodName := ⟨RX11, "stretch", "(III)I"⟩
abbrev cX11_lines : ByteArray := prog_1_method_20_code
def yX11_lines : MethodName := ⟨RX11, "lines", "(II)J"⟩
abbrev cX11_byTurns : ByteArray := prog_1_method_21_code
def yX11_byTurns : MethodName := ⟨RX11, "byTurns", "(IIIZ)J"⟩
abbrev cX11_wasted : ByteArray := prog_1_method_22_code
def yX11_wasted : MethodName := ⟨RX11, "wasted", "(I)I"⟩
abbrev cX11_over : ByteArray := prog_1_method_23_code
def yX11_over : MethodName := ⟨RX11, "over", "(Z)I"⟩
abbrev cX11_where : ByteArray := prog_1_method_24_code
def yX11_where : MethodName := ⟨RX11, "where", "(I)I"⟩
abbrev cX11_measure : ByteArray := prog_1_method_25_code
def yX11_measure : MethodName := ⟨RX11, "measure", "(I)I"⟩
abbrev cX11_fit : ByteArray := prog_1_method_26_code
def yX11_fit : MethodName := ⟨RX11, "fit", "(I)I"⟩
abbrev cX11_fitted : ByteArray := prog_1_method_27_code
def yX11_fitted : MethodName := ⟨RX11, "fitted", "(I)I"⟩
abbrev cX11_ask : ByteArray := prog_1_method_28_code
def yX11_ask : MethodName := ⟨RX11, "ask", "(III)I"⟩
abbrev cX11_forget : ByteArray := prog_1_method_29_code
def yX11_forget : MethodName := ⟨RX11, "forget", "()I"⟩
abbrev cX11_together : ByteArray := prog_1_method_30_code
def yX11_together : MethodName := ⟨RX11, "together", "(I)I"⟩
abbrev cX11_later : ByteArray := prog_1_method_31_code
def yX11_later : MethodName := ⟨RX11, "later", "(I)I"⟩
abbrev cX11_never : ByteArray := prog_1_method_32_code
def yX11_never : MethodName := ⟨RX11, "never", "()I"⟩
abbrev cX11_lasts : ByteArray := prog_1_method_33_code
def yX11_lasts : MethodName := ⟨RX11, "lasts", "(III)I"⟩
def RX12 : String := "SipMeterModel"
def TX12 : u_T := fun k => match k with
  | 0 => ("SipMeterModel", "tape", "[I", true)
  | 1 => ("SipMeterModel", "taped", "I", false)
  | 2 => ("SipMeterModel", "size", "I", false)
  | 3 => ("SipMeterModel", "sign", "I", false)
  | 4 => ("SipMeterModel", "signAt", "I", false)
  | 5 => ("SipMeterModel", "signEnd", "I", false)
  | 6 => ("SipMeterModel", "value", "I", false)
  | 7 => ("SipMeterModel", "word", "J", false)
  | 8 => ("SipMeterModel", "faultKind", "I", false)
  | 9 => ("SipMeterModel", "faultPlace", "I", false)
  | 10 => ("SipMeterModel", "toldKind", "I", false)
  | 11 => ("SipMeterModel", "toldPlace", "I", false)
  | 12 => ("SipMeterModel", "bank", "I", false)
  | 13 => ("SipMeterModel", "heart", "[I", true)
  | 14 => ("SipMeterModel", "sets", "[I", true)
  | 15 => ("SipMeterModel", "wide", "[I", true)
  | 16 => ("SipMeterModel", "miss", "[I", true)
  | 17 => ("SipMeterModel", "parts", "[I", true)
  | 18 => ("SipMeterModel", "inputs", "[I", true)
  | 19 => ("SipMeterModel", "vars", "[I", true)
  | 20 => ("SipMeterModel", "lines", "[I", true)
  | 21 => ("SipMeterModel", "partName", "[J", true)
  | 22 => ("SipMeterModel", "rates", "[I", true)
  | 23 => ("SipMeterModel", "inputName", "[J", true)
  | 24 => ("SipMeterModel", "least", "[I", true)
  | 25 => ("SipMeterModel", "greatest", "[I", true)
  | 26 => ("SipMeterModel", "varName", "[J", true)
  | 27 => ("SipMeterModel", "spots", "[I", true)
  | 28 => ("SipMeterModel", "does", "[I", true)
  | 29 => ("SipMeterModel", "lineOf", "[I", true)
  | 30 => ("SipMeterModel", "what", "[I", true)
  | 31 => ("SipMeterModel", "codeFrom", "[I", true)
  | 32 => ("SipMeterModel", "codeTo", "[I", true)
  | 33 => ("SipMeterModel", "goesTo", "[I", true)
  | 34 => ("SipMeterModel", "codeSort", "[I", true)
  | 35 => ("SipMeterModel", "codeValue", "[I", true)
  | 36 => ("SipMeterModel", "codes", "I", false)
  | 37 => ("SipMeterModel", "in", "I", false)
  | 38 => ("SipMeterModel", "frame", "[I", true)
  | 39 => ("SipMeterModel", "phase", "[I", true)
  | 40 => ("SipMeterModel", "begins", "[Z", true)
  | 41 => ("SipMeterModel", "pair", "[I", true)
  | 42 => ("SipMeterModel", "base", "[I", true)
  | 43 => ("SipMeterModel", "deep", "I", false)
  | 44 => ("SipMeterModel", "open", "I", false)
  | 45 => ("SipMeterModel", "ops", "[I", true)
  | 46 => ("SipMeterModel", "opMany", "I", false)
  | 47 => ("SipMeterModel", "operand", "Z", false)
  | 48 => ("SipMeterModel", "block", "[I", true)
  | 49 => ("SipMeterModel", "opener", "[I", true)
  | 50 => ("SipMeterModel", "blocks", "I", false)
  | 51 => ("SipMeterModel", "puts", "[I", true)
  | 52 => ("SipMeterModel", "given", "[I", true)
  | 53 => ("SipMeterModel", "vary", "[I", true)
  | 54 => ("SipMeterModel", "isHeld", "[Z", true)
  | 55 => ("SipMeterModel", "holder", "[I", true)
  | 56 => ("SipMeterModel", "tailLeft", "[I", true)
  | 57 => ("SipMeterModel", "lastLine", "[I", true)
  | 58 => ("SipMeterModel", "kept", "[I", true)
  | 59 => ("SipMeterModel", "busy", "I", false)
  | 60 => ("SipMeterModel", "midst", "I", false)
  | 61 => ("SipMeterModel", "busyHow", "I", false)
  | 62 => ("SipMeterModel", "ticks", "I", false)
  | 63 => ("SipMeterModel", "sipped", "J", false)
  | 64 => ("SipMeterModel", "purse", "J", false)
  | 65 => ("SipMeterModel", "misses", "I", false)
  | 66 => ("SipMeterModel", "touches", "I", false)
  | 67 => ("SipMeterModel", "owns", "I", false)
  | 68 => ("SipMeterModel", "how", "I", false)
  | 69 => ("SipMeterModel", "counts", "[I", true)
  | 70 => ("SipMeterModel", "writes", "Z", false)
  | 71 => ("SipMeterModel", "lineAt", "[I", true)
  | 72 => ("SipMeterModel", "state", "[I", true)
  | 73 => ("SipMeterModel", "payer", "[I", true)
  | 74 => ("SipMeterModel", "heldFor", "[I", true)
  | 75 => ("SipMeterModel", "actMany", "I", false)
  | 76 => ("SipMeterModel", "actPart", "[I", true)
  | 77 => ("SipMeterModel", "actLine", "[I", true)
  | 78 => ("SipMeterModel", "actTick", "[I", true)
  | 79 => ("SipMeterModel", "emptyMany", "I", false)
  | 80 => ("SipMeterModel", "emptyPart", "[I", true)
  | 81 => ("SipMeterModel", "emptyLine", "[I", true)
  | 82 => ("SipMeterModel", "emptyTick", "[I", true)
  | 83 => ("SipMeterModel", "heap", "[J", true)
  | 84 => ("SipMeterModel", "cutLine", "I", false)
  | 85 => ("SipMeterModel", "hasRun", "Z", false)
  | 86 => ("SipMeterModel", "allTicks", "I", false)
  | 87 => ("SipMeterModel", "allSipped", "J", false)
  | 88 => ("SipMeterModel", "allMisses", "I", false)
  | 89 => ("SipMeterModel", "allTouches", "I", false)
  | 90 => ("SipMeterModel", "allOwns", "I", false)
  | 91 => ("SipMeterModel", "allCut", "I", false)
  | 92 => ("SipMeterModel", "allVars", "[I", true)
  | 93 => ("SipMeterModel", "allCounts", "[I", true)
  | 94 => ("SipMeterModel", "isDone", "[Z", true)
  | 95 => ("SipMeterModel", "allActs", "I", false)
  | 96 => ("SipMeterModel", "allEmpty", "I", false)
  | 97 => ("SipMeterModel", "from", "I", false)
  | 98 => ("SipMeterModel", "behind", "I", false)
  | 99 => ("SipMeterModel", "stretchMany", "I", false)
  | 100 => ("SipMeterModel", "member", "[I", true)
  | 101 => ("SipMeterModel", "members", "I", false)
  | 102 => ("SipMeterModel", "isBase", "[Z", true)
  | 103 => ("SipMeterModel", "costs", "[J", true)
  | 104 => ("SipMeterModel", "hasOver", "Z", false)
  | 105 => ("SipMeterModel", "overAt", "[I", true)
  | 106 => ("SipMeterModel", "measured", "I", false)
  | 107 => ("SipMeterModel", "rowPut", "[I", true)
  | 108 => ("SipMeterModel", "rowSips", "[I", true)
  | 109 => ("SipMeterModel", "hasFit", "Z", false)
  | 110 => ("SipMeterModel", "fitted", "[I", true)
  | 111 => ("SipMeterModel", "rest", "[J", true)
  | 112 => ("SipMeterModel", "often", "[I", true)
  | 113 => ("SipMeterModel", "asks", "I", false)
  | 114 => ("SipMeterModel", "askTick", "[I", true)
  | 115 => ("SipMeterModel", "askLong", "[I", true)
  | 116 => ("SipMeterModel", "askLater", "[I", true)
  | 117 => ("SipMeterModel", "laterMany", "I", false)
  | 118 => ("SipMeterModel", "later", "[I", true)
  | 119 => ("SipMeterModel", "shift", "[I", true)
  | _ => ("SipMeterModel", "come", "[J", true)
def tyX12 : Nat → FieldType := fun k => match k with
  | 0 => .array .int
  | 1 => .int
  | 2 => .int
  | 3 => .int
  | 4 => .int
  | 5 => .int
  | 6 => .int
  | 7 => .long
  | 8 => .int
  | 9 => .int
  | 10 => .int
  | 11 => .int
  | 12 => .int
  | 13 => .array .int
  | 14 => .array .int
  | 15 => .array .int
  | 16 => .array .int
  | 17 => .array .int
  | 18 => .array .int
  | 19 => .array .int
  | 20 => .array .int
  | 21 => .array .long
  | 22 => .array .int
  | 23 => .array .long
  | 24 => .array .int
  | 25 => .array .int
  | 26 => .array .long
  | 27 => .array .int
  | 28 => .array .int
  | 29 => .array .int
  | 30 => .array .int
  | 31 => .array .int
  | 32 => .array .int
  | 33 => .array .int
  | 34 => .array .int
  | 35 => .array .int
  | 36 => .int
  | 37 => .int
  | 38 => .array .int
  | 39 => .array .int
  | 40 => .array .boolean
  | 41 => .array .int
  | 42 => .array .int
  | 43 => .int
  | 44 => .int
  | 45 => .array .int
  | 46 => .int
  | 47 => .boolean
  | 48 => .array .int
  | 49 => .array .int
  | 50 => .int
  | 51 => .array .int
  | 52 => .array .int
  | 53 => .array .int
  | 54 => .array .boolean
  | 55 => .array .int
  | 56 => .array .int
  | 57 => .array .int
  | 58 => .array .int
  | 59 => .int
  | 60 => .int
  | 61 => .int
  | 62 => .int
  | 63 => .long
  | 64 => .long
  | 65 => .int
  | 66 => .int
  | 67 => .int
  | 68 => .int
  | 69 => .array .int
  | 70 => .boolean
  | 71 => .array .int
  | 72 => .array .int
  | 73 => .array .int
  | 74 => .array .int
  | 75 => .int
  | 76 => .array .int
  | 77 => .array .int
  | 78 => .array .int
  | 79 => .int
  | 80 => .array .int
  | 81 => .array .int
  | 82 => .array .int
  | 83 => .array .long
  | 84 => .int
  | 85 => .boolean
  | 86 => .int
  | 87 => .long
  | 88 => .int
  | 89 => .int
  | 90 => .int
  | 91 => .int
  | 92 => .array .int
  | 93 => .array .int
  | 94 => .array .boolean
  | 95 => .int
  | 96 => .int
  | 97 => .int
  | 98 => .int
  | 99 => .int
  | 100 => .array .int
  | 101 => .int
  | 102 => .array .boolean
  | 103 => .array .long
  | 104 => .boolean
  | 105 => .array .int
  | 106 => .int
  | 107 => .array .int
  | 108 => .array .int
  | 109 => .boolean
  | 110 => .array .int
  | 111 => .array .long
  | 112 => .array .int
  | 113 => .int
  | 114 => .array .int
  | 115 => .array .int
  | 116 => .array .int
  | 117 => .int
  | 118 => .array .int
  | 119 => .array .int
  | _ => .array .long
theorem nmX12 : ∀ a, a < 121 → ∀ b, b < 121 → a ≠ b → (TX12 a).2.1 ≠ (TX12 b).2.1 := by decide +kernel
theorem tyX12_ok : ∀ k, k < 121 → parseFieldDescriptor (TX12 k).2.2.1 = some (tyX12 k) := by decide +kernel
abbrev cX12_init : ByteArray := prog_14_method_1_code
def yX12_init : MethodName := ⟨RX12, "<init>", "()V"⟩
abbrev cX12_is : ByteArray := prog_14_method_2_code
def yX12_is : MethodName := ⟨RX12, "is", "(III)Z"⟩
abbrev cX12_put : ByteArray := prog_14_method_3_code
def yX12_put : MethodName := ⟨RX12, "put", "(I)V"⟩
abbrev cX12_feed : ByteArray := prog_14_method_4_code
def yX12_feed : MethodName := ⟨RX12, "feed", "(IIIII)I"⟩
abbrev cX12_end : ByteArray := prog_14_method_5_code
def yX12_end : MethodName := ⟨RX12, "end", "(I)Z"⟩
abbrev cX12_blame : ByteArray := prog_14_method_6_code
def yX12_blame : MethodName := ⟨RX12, "blame", "(II)V"⟩
abbrev cX12_isLetter : ByteArray := prog_14_method_7_code
def yX12_isLetter : MethodName := ⟨RX12, "isLetter", "(I)Z"⟩
abbrev cX12_isDigit : ByteArray := prog_14_method_8_code
def yX12_isDigit : MethodName := ⟨RX12, "isDigit", "(I)Z"⟩
abbrev cX12_next : ByteArray := prog_14_method_9_code
def yX12_next : MethodName := ⟨RX12, "next", "()V"⟩
abbrev cX12_isSign : ByteArray := prog_14_method_10_code
def yX12_isSign : MethodName := ⟨RX12, "isSign", "(I)Z"⟩
abbrev cX12_isWord : ByteArray := prog_14_method_11_code
def yX12_isWord : MethodName := ⟨RX12, "isWord", "(J)Z"⟩
abbrev cX12_must : ByteArray := prog_14_method_12_code
def yX12_must : MethodName := ⟨RX12, "must", "(I)V"⟩
abbrev cX12_isOwn : ByteArray := prog_14_method_13_code
def yX12_isOwn : MethodName := ⟨RX12, "isOwn", "(J)Z"⟩
abbrev cX12_partOf : ByteArray := prog_14_method_14_code
def yX12_partOf : MethodName := ⟨RX12, "partOf", "(J)I"⟩
abbrev cX12_inputOf : ByteArray := prog_14_method_15_code
def yX12_inputOf : MethodName := ⟨RX12, "inputOf", "(J)I"⟩
abbrev cX12_varOf : ByteArray := prog_14_method_16_code
def yX12_varOf : MethodName := ⟨RX12, "varOf", "(J)I"⟩
abbrev cX12_fresh : ByteArray := prog_14_method_17_code
def yX12_fresh : MethodName := ⟨RX12, "fresh", "()J"⟩
abbrev cX12_asked : ByteArray := prog_14_method_18_code
def yX12_asked : MethodName := ⟨RX12, "asked", "(I)I"⟩
abbrev cX12_number : ByteArray := prog_14_method_19_code
def yX12_number : MethodName := ⟨RX12, "number", "(II)I"⟩
abbrev cX12_add : ByteArray := prog_14_method_20_code
def yX12_add : MethodName := ⟨RX12, "add", "(II)V"⟩
abbrev cX12_rank : ByteArray := prog_14_method_21_code
def yX12_rank : MethodName := ⟨RX12, "rank", "(I)I"⟩
abbrev cX12_joins : ByteArray := prog_14_method_22_code
def yX12_joins : MethodName := ⟨RX12, "joins", "(I)V"⟩
abbrev cX12_holdsBack : ByteArray := prog_14_method_23_code
def yX12_holdsBack : MethodName := ⟨RX12, "holdsBack", "(I)V"⟩
abbrev cX12_pushes : ByteArray := prog_14_method_24_code
def yX12_pushes : MethodName := ⟨RX12, "pushes", "(I)V"⟩
abbrev cX12_opens : ByteArray := prog_14_method_25_code
def yX12_opens : MethodName := ⟨RX12, "opens", "(I)V"⟩
abbrev cX12_isTest : ByteArray := prog_14_method_26_code
def yX12_isTest : MethodName := ⟨RX12, "isTest", "(I)Z"⟩
abbrev cX12_operand : ByteArray := prog_14_method_27_code
def yX12_operand : MethodName := ⟨RX12, "operand", "()Z"⟩
abbrev cX12_goesOn : ByteArray := prog_14_method_28_code
def yX12_goesOn : MethodName := ⟨RX12, "goesOn", "()Z"⟩
abbrev cX12_reads : ByteArray := prog_14_method_29_code
def yX12_reads : MethodName := ⟨RX12, "reads", "(Z)V"⟩
abbrev cX12_counts : ByteArray := prog_14_method_30_code
def yX12_counts : MethodName := ⟨RX12, "counts", "(Z)V"⟩
abbrev cX12_must_ : ByteArray := prog_14_method_31_code
def yX12_must_ : MethodName := ⟨RX12, "must", "(J)V"⟩
abbrev cX12_part : ByteArray := prog_14_method_32_code
def yX12_part : MethodName := ⟨RX12, "part", "()V"⟩
abbrev cX12_input : ByteArray := prog_14_method_33_code
def yX12_input : MethodName := ⟨RX12, "input", "()V"⟩
abbrev cX12_variable : ByteArray := prog_14_method_34_code
def yX12_variable : MethodName := ⟨RX12, "variable", "()V"⟩
abbrev cX12_declares : ByteArray := prog_14_method_35_code
def yX12_declares : MethodName := ⟨RX12, "declares", "()Z"⟩
abbrev cX12_spot : ByteArray := prog_14_method_36_code
def yX12_spot : MethodName := ⟨RX12, "spot", "(II)I"⟩
abbrev cX12_opensBlock : ByteArray := prog_14_method_37_code
def yX12_opensBlock : MethodName := ⟨RX12, "opensBlock", "(II)V"⟩
abbrev cX12_closesBlock : ByteArray := prog_14_method_38_code
def yX12_closesBlock : MethodName := ⟨RX12, "closesBlock", "()V"⟩
abbrev cX12_order : ByteArray := prog_14_method_39_code
def yX12_order : MethodName := ⟨RX12, "order", "()I"⟩
abbrev cX12_statement : ByteArray := prog_14_method_40_code
def yX12_statement : MethodName := ⟨RX12, "statement", "()V"⟩
abbrev cX12_text : ByteArray := prog_14_method_41_code
def yX12_text : MethodName := ⟨RX12, "text", "()I"⟩
abbrev cX12_fault : ByteArray := prog_14_method_42_code
def yX12_fault : MethodName := ⟨RX12, "fault", "(I)I"⟩
abbrev cX12_has : ByteArray := prog_14_method_43_code
def yX12_has : MethodName := ⟨RX12, "has", "(I)I"⟩
abbrev cX12_letterOf : ByteArray := prog_14_method_44_code
def yX12_letterOf : MethodName := ⟨RX12, "letterOf", "(JI)I"⟩
abbrev cX12_isPart : ByteArray := prog_14_method_45_code
def yX12_isPart : MethodName := ⟨RX12, "isPart", "(I)Z"⟩
abbrev cX12_isInput : ByteArray := prog_14_method_46_code
def yX12_isInput : MethodName := ⟨RX12, "isInput", "(I)Z"⟩
abbrev cX12_isLine : ByteArray := prog_14_method_47_code
def yX12_isLine : MethodName := ⟨RX12, "isLine", "(I)Z"⟩
abbrev cX12_letter : ByteArray := prog_14_method_48_code
def yX12_letter : MethodName := ⟨RX12, "letter", "(III)I"⟩
abbrev cX12_put_ : ByteArray := prog_14_method_49_code
def yX12_put_ : MethodName := ⟨RX12, "put", "(II)Z"⟩
abbrev cX12_rate : ByteArray := prog_14_method_50_code
def yX12_rate : MethodName := ⟨RX12, "rate", "(II)I"⟩
abbrev cX12_sleeps : ByteArray := prog_14_method_51_code
def yX12_sleeps : MethodName := ⟨RX12, "sleeps", "(I)I"⟩
abbrev cX12_wakes : ByteArray := prog_14_method_52_code
def yX12_wakes : MethodName := ⟨RX12, "wakes", "(I)I"⟩
abbrev cX12_tails : ByteArray := prog_14_method_53_code
def yX12_tails : MethodName := ⟨RX12, "tails", "(I)I"⟩
abbrev cX12_stateOf : ByteArray := prog_14_method_54_code
def yX12_stateOf : MethodName := ⟨RX12, "stateOf", "(I)I"⟩
abbrev cX12_sips : ByteArray := prog_14_method_55_code
def yX12_sips : MethodName := ⟨RX12, "sips", "(II)I"⟩
abbrev cX12_tick : ByteArray := prog_14_method_56_code
def yX12_tick : MethodName := ⟨RX12, "tick", "(I)Z"⟩
abbrev cX12_acts : ByteArray := prog_14_method_57_code
def yX12_acts : MethodName := ⟨RX12, "acts", "(III)V"⟩
abbrev cX12_ticksOf : ByteArray := prog_14_method_58_code
def yX12_ticksOf : MethodName := ⟨RX12, "ticksOf", "(IIIIZI)Z"⟩
abbrev cX12_uses : ByteArray := prog_14_method_59_code
def yX12_uses : MethodName := ⟨RX12, "uses", "(III)Z"⟩
abbrev cX12_holds : ByteArray := prog_14_method_60_code
def yX12_holds : MethodName := ⟨RX12, "holds", "(II)Z"⟩
abbrev cX12_frees : ByteArray := prog_14_method_61_code
def yX12_frees : MethodName := ⟨RX12, "frees", "(II)V"⟩
abbrev cX12_touches : ByteArray := prog_14_method_62_code
def yX12_touches : MethodName := ⟨RX12, "touches", "(II)Z"⟩
abbrev cX12_held : ByteArray := prog_14_method_63_code
def yX12_held : MethodName := ⟨RX12, "held", "(J)J"⟩
abbrev cX12_floor : ByteArray := prog_14_method_64_code
def yX12_floor : MethodName := ⟨RX12, "floor", "(JJ)J"⟩
abbrev cX12_joined : ByteArray := prog_14_method_65_code
def yX12_joined : MethodName := ⟨RX12, "joined", "(IJJ)J"⟩
abbrev cX12_leaf : ByteArray := prog_14_method_66_code
def yX12_leaf : MethodName := ⟨RX12, "leaf", "(II)J"⟩
abbrev cX12_works : ByteArray := prog_14_method_67_code
def yX12_works : MethodName := ⟨RX12, "works", "(I)J"⟩
abbrev cX12_within : ByteArray := prog_14_method_68_code
def yX12_within : MethodName := ⟨RX12, "within", "(JI)I"⟩
abbrev cX12_does : ByteArray := prog_14_method_69_code
def yX12_does : MethodName := ⟨RX12, "does", "(I)Z"⟩
abbrev cX12_runs : ByteArray := prog_14_method_70_code
def yX12_runs : MethodName := ⟨RX12, "runs", "(J)I"⟩
abbrev cX12_run : ByteArray := prog_14_method_71_code
def yX12_run : MethodName := ⟨RX12, "run", "(I)I"⟩
abbrev cX12_ran : ByteArray := prog_14_method_72_code
def yX12_ran : MethodName := ⟨RX12, "ran", "(I)I"⟩
abbrev cX12_value : ByteArray := prog_14_method_73_code
def yX12_value : MethodName := ⟨RX12, "value", "(I)I"⟩
abbrev cX12_spent : ByteArray := prog_14_method_74_code
def yX12_spent : MethodName := ⟨RX12, "spent", "(II)I"⟩
abbrev cX12_stateAt : ByteArray := prog_14_method_75_code
def yX12_stateAt : MethodName := ⟨RX12, "stateAt", "(II)I"⟩
abbrev cX12_finds : ByteArray := prog_14_method_76_code
def yX12_finds : MethodName := ⟨RX12, "finds", "(II)Z"⟩
abbrev cX12_stretches : ByteArray := prog_14_method_77_code
def yX12_stretches : MethodName := ⟨RX12, "stretches", "(I)I"⟩
abbrev cX12_onIn : ByteArray := prog_14_method_78_code
def yX12_onIn : MethodName := ⟨RX12, "onIn", "(I)I"⟩
abbrev cX12_stretch : ByteArray := prog_14_method_79_code
def yX12_stretch : MethodName := ⟨RX12, "stretch", "(III)I"⟩
abbrev cX12_linesIn : ByteArray := prog_14_method_80_code
def yX12_linesIn : MethodName := ⟨RX12, "linesIn", "(I)J"⟩
abbrev cX12_lines : ByteArray := prog_14_method_81_code
def yX12_lines : MethodName := ⟨RX12, "lines", "(II)J"⟩
abbrev cX12_bitsOf : ByteArray := prog_14_method_82_code
def yX12_bitsOf : MethodName := ⟨RX12, "bitsOf", "(J)I"⟩
abbrev cX12_sharesOf : ByteArray := prog_14_method_83_code
def yX12_sharesOf : MethodName := ⟨RX12, "sharesOf", "(II)J"⟩
abbrev cX12_pays : ByteArray := prog_14_method_84_code
def yX12_pays : MethodName := ⟨RX12, "pays", "(II)I"⟩
abbrev cX12_wasted : ByteArray := prog_14_method_85_code
def yX12_wasted : MethodName := ⟨RX12, "wasted", "(I)I"⟩
abbrev cX12_isAmong : ByteArray := prog_14_method_86_code
def yX12_isAmong : MethodName := ⟨RX12, "isAmong", "(II)Z"⟩
abbrev cX12_rows : ByteArray := prog_14_method_87_code
def yX12_rows : MethodName := ⟨RX12, "rows", "(III)J"⟩
abbrev cX12_costOf : ByteArray := prog_14_method_88_code
def yX12_costOf : MethodName := ⟨RX12, "costOf", "(II)J"⟩
abbrev cX12_common : ByteArray := prog_14_method_89_code
def yX12_common : MethodName := ⟨RX12, "common", "(JJ)J"⟩
abbrev cX12_orders : ByteArray := prog_14_method_90_code
def yX12_orders : MethodName := ⟨RX12, "orders", "(I)J"⟩
abbrev cX12_byTurns : ByteArray := prog_14_method_91_code
def yX12_byTurns : MethodName := ⟨RX12, "byTurns", "(IIIZ)J"⟩
abbrev cX12_span : ByteArray := prog_14_method_92_code
def yX12_span : MethodName := ⟨RX12, "span", "(I)I"⟩
abbrev cX12_lowOf : ByteArray := prog_14_method_93_code
def yX12_lowOf : MethodName := ⟨RX12, "lowOf", "(I)I"⟩
abbrev cX12_over : ByteArray := prog_14_method_94_code
def yX12_over : MethodName := ⟨RX12, "over", "(Z)I"⟩
abbrev cX12_where : ByteArray := prog_14_method_95_code
def yX12_where : MethodName := ⟨RX12, "where", "(I)I"⟩
abbrev cX12_measure : ByteArray := prog_14_method_96_code
def yX12_measure : MethodName := ⟨RX12, "measure", "(I)I"⟩
abbrev cX12_fit : ByteArray := prog_14_method_97_code
def yX12_fit : MethodName := ⟨RX12, "fit", "(I)I"⟩
abbrev cX12_fitted : ByteArray := prog_14_method_98_code
def yX12_fitted : MethodName := ⟨RX12, "fitted", "(I)I"⟩
abbrev cX12_ask : ByteArray := prog_14_method_99_code
def yX12_ask : MethodName := ⟨RX12, "ask", "(III)I"⟩
abbrev cX12_forget : ByteArray := prog_14_method_100_code
def yX12_forget : MethodName := ⟨RX12, "forget", "()I"⟩
abbrev cX12_asksCost : ByteArray := prog_14_method_101_code
def yX12_asksCost : MethodName := ⟨RX12, "asksCost", "(I)J"⟩
abbrev cX12_together : ByteArray := prog_14_method_102_code
def yX12_together : MethodName := ⟨RX12, "together", "(I)I"⟩
abbrev cX12_later : ByteArray := prog_14_method_103_code
def yX12_later : MethodName := ⟨RX12, "later", "(I)I"⟩
abbrev cX12_moved : ByteArray := prog_14_method_104_code
def yX12_moved : MethodName := ⟨RX12, "moved", "(JIZ)J"⟩
abbrev cX12_never : ByteArray := prog_14_method_105_code
def yX12_never : MethodName := ⟨RX12, "never", "()I"⟩
abbrev cX12_lasts : ByteArray := prog_14_method_106_code
def yX12_lasts : MethodName := ⟨RX12, "lasts", "(III)I"⟩
def RJx145de : String := "java/io/Serializable"
def TJx145de : u_T := fun k => match k with
  | _ => ("", "", "", false)
def tyJx145de : Nat → FieldType := fun k => match k with
  | _ => .int
theorem nmJx145de : ∀ a, a < 0 → ∀ b, b < 0 → a ≠ b → (TJx145de a).2.1 ≠ (TJx145de b).2.1 := by decide +kernel
theorem tyJx145de_ok : ∀ k, k < 0 → parseFieldDescriptor (TJx145de k).2.2.1 = some (tyJx145de k) := by decide +kernel
def RJx9f9b0 : String := "java/lang/CharSequence"
def TJx9f9b0 : u_T := fun k => match k with
  | _ => ("", "", "", false)
def tyJx9f9b0 : Nat → FieldType := fun k => match k with
  | _ => .int
theorem nmJx9f9b0 : ∀ a, a < 0 → ∀ b, b < 0 → a ≠ b → (TJx9f9b0 a).2.1 ≠ (TJx9f9b0 b).2.1 := by decide +kernel
theorem tyJx9f9b0_ok : ∀ k, k < 0 → parseFieldDescriptor (TJx9f9b0 k).2.2.1 = some (tyJx9f9b0 k) := by decide +kernel
def RJ11 : String := "java/lang/Character"
def TJ11 : u_T := fun k => match k with
  | _ => ("", "", "", false)
def tyJ11 : Nat → FieldType := fun k => match k with
  | _ => .int
theorem nmJ11 : ∀ a, a < 0 → ∀ b, b < 0 → a ≠ b → (TJ11 a).2.1 ≠ (TJ11 b).2.1 := by decide +kernel
theorem tyJ11_ok : ∀ k, k < 0 → parseFieldDescriptor (TJ11 k).2.2.1 = some (tyJ11 k) := by decide +kernel
abbrev cJ11_isValidCodePoint_9a6ad : ByteArray := prog_15_method_11_code
def yJ11_isValidCodePoint_9a6ad : MethodName := ⟨RJ11, "isValidCodePoint", "(I)Z"⟩
abbrev cJ11_highSurrogate_5068e : ByteArray := prog_15_method_28_code
def yJ11_highSurrogate_5068e : MethodName := ⟨RJ11, "highSurrogate", "(I)C"⟩
abbrev cJ11_lowSurrogate_5068e : ByteArray := prog_15_method_29_code
def yJ11_lowSurrogate_5068e : MethodName := ⟨RJ11, "lowSurrogate", "(I)C"⟩
def RJx8e188 : String := "java/lang/Cloneable"
def TJx8e188 : u_T := fun k => match k with
  | _ => ("", "", "", false)
def tyJx8e188 : Nat → FieldType := fun k => match k with
  | _ => .int
theorem nmJx8e188 : ∀ a, a < 0 → ∀ b, b < 0 → a ≠ b → (TJx8e188 a).2.1 ≠ (TJx8e188 b).2.1 := by decide +kernel
theorem tyJx8e188_ok : ∀ k, k < 0 → parseFieldDescriptor (TJx8e188 k).2.2.1 = some (tyJx8e188 k) := by decide +kernel
def RJxb160c : String := "java/lang/Comparable"
def TJxb160c : u_T := fun k => match k with
  | _ => ("", "", "", false)
def tyJxb160c : Nat → FieldType := fun k => match k with
  | _ => .int
theorem nmJxb160c : ∀ a, a < 0 → ∀ b, b < 0 → a ≠ b → (TJxb160c a).2.1 ≠ (TJxb160c b).2.1 := by decide +kernel
theorem tyJxb160c_ok : ∀ k, k < 0 → parseFieldDescriptor (TJxb160c k).2.2.1 = some (tyJxb160c k) := by decide +kernel
def RJ6 : String := "java/lang/Integer"
def TJ6 : u_T := fun k => match k with
  | _ => ("", "", "", false)
def tyJ6 : Nat → FieldType := fun k => match k with
  | _ => .int
theorem nmJ6 : ∀ a, a < 0 → ∀ b, b < 0 → a ≠ b → (TJ6 a).2.1 ≠ (TJ6 b).2.1 := by decide +kernel
theorem tyJ6_ok : ∀ k, k < 0 → parseFieldDescriptor (TJ6 k).2.2.1 = some (tyJ6 k) := by decide +kernel
abbrev cJ6_bitCount_0f7a4 : ByteArray := prog_17_method_49_code
def yJ6_bitCount_0f7a4 : MethodName := ⟨RJ6, "bitCount", "(I)I"⟩
def RJ13 : String := "java/lang/Long"
def TJ13 : u_T := fun k => match k with
  | _ => ("", "", "", false)
def tyJ13 : Nat → FieldType := fun k => match k with
  | _ => .int
theorem nmJ13 : ∀ a, a < 0 → ∀ b, b < 0 → a ≠ b → (TJ13 a).2.1 ≠ (TJ13 b).2.1 := by decide +kernel
theorem tyJ13_ok : ∀ k, k < 0 → parseFieldDescriptor (TJ13 k).2.2.1 = some (tyJ13 k) := by decide +kernel
abbrev cJ13_bitCount_95d88 : ByteArray := prog_18_method_50_code
def yJ13_bitCount_95d88 : MethodName := ⟨RJ13, "bitCount", "(J)I"⟩
def RJ9 : String := "java/lang/Math"
def TJ9 : u_T := fun k => match k with
  | _ => ("", "", "", false)
def tyJ9 : Nat → FieldType := fun k => match k with
  | _ => .int
theorem nmJ9 : ∀ a, a < 0 → ∀ b, b < 0 → a ≠ b → (TJ9 a).2.1 ≠ (TJ9 b).2.1 := by decide +kernel
theorem tyJ9_ok : ∀ k, k < 0 → parseFieldDescriptor (TJ9 k).2.2.1 = some (tyJ9 k) := by decide +kernel
abbrev cJ9_floorDiv_7cf53 : ByteArray := prog_19_method_47_code
def yJ9_floorDiv_7cf53 : MethodName := ⟨RJ9, "floorDiv", "(II)I"⟩
abbrev cJ9_floorMod_7cf53 : ByteArray := prog_19_method_50_code
def yJ9_floorMod_7cf53 : MethodName := ⟨RJ9, "floorMod", "(II)I"⟩
abbrev cJ9_abs_0f7a4 : ByteArray := prog_19_method_59_code
def yJ9_abs_0f7a4 : MethodName := ⟨RJ9, "abs", "(I)I"⟩
abbrev cJ9_abs_067f4 : ByteArray := prog_19_method_61_code
def yJ9_abs_067f4 : MethodName := ⟨RJ9, "abs", "(J)J"⟩
abbrev cJ9_max_7cf53 : ByteArray := prog_19_method_65_code
def yJ9_max_7cf53 : MethodName := ⟨RJ9, "max", "(II)I"⟩
abbrev cJ9_max_f86c9 : ByteArray := prog_19_method_66_code
def yJ9_max_f86c9 : MethodName := ⟨RJ9, "max", "(JJ)J"⟩
abbrev cJ9_min_7cf53 : ByteArray := prog_19_method_69_code
def yJ9_min_7cf53 : MethodName := ⟨RJ9, "min", "(II)I"⟩
abbrev cJ9_min_f86c9 : ByteArray := prog_19_method_70_code
def yJ9_min_f86c9 : MethodName := ⟨RJ9, "min", "(JJ)J"⟩
def RJ0 : String := "java/lang/String"
def TJ0 : u_T := fun k => match k with
  | _ => ("", "", "", false)
def tyJ0 : Nat → FieldType := fun k => match k with
  | _ => .int
theorem nmJ0 : ∀ a, a < 0 → ∀ b, b < 0 → a ≠ b → (TJ0 a).2.1 ≠ (TJ0 b).2.1 := by decide +kernel
theorem tyJ0_ok : ∀ k, k < 0 → parseFieldDescriptor (TJ0 k).2.2.1 = some (tyJ0 k) := by decide +kernel
abbrev cJ0_length_8abf5 : ByteArray := prog_20_method_54_code
def yJ0_length_8abf5 : MethodName := ⟨RJ0, "length", "()I"⟩
abbrev cJ0_charAt_5068e : ByteArray := prog_20_method_56_code
def yJ0_charAt_5068e : MethodName := ⟨RJ0, "charAt", "(I)C"⟩
abbrev cJ0_indexOf_0f7a4 : ByteArray := prog_20_method_79_code
def yJ0_indexOf_0f7a4 : MethodName := ⟨RJ0, "indexOf", "(I)I"⟩
abbrev cJ0_indexOf_7cf53 : ByteArray := prog_20_method_80_code
def yJ0_indexOf_7cf53 : MethodName := ⟨RJ0, "indexOf", "(II)I"⟩
abbrev cJ0_coder_7d493 : ByteArray := prog_20_method_152_code
def yJ0_coder_7d493 : MethodName := ⟨RJ0, "coder", "()B"⟩
abbrev cJ0_isLatin1_aae02 : ByteArray := prog_20_method_154_code
def yJ0_isLatin1_aae02 : MethodName := ⟨RJ0, "isLatin1", "()Z"⟩
abbrev cJ0_checkIndex_df160 : ByteArray := prog_20_method_155_code
def yJ0_checkIndex_df160 : MethodName := ⟨RJ0, "checkIndex", "(II)V"⟩
abbrev cJ0_checkBoundsBeginEnd_23922 : ByteArray := prog_20_method_158_code
def yJ0_checkBoundsBeginEnd_23922 : MethodName := ⟨RJ0, "checkBoundsBeginEnd", "(III)V"⟩
def RJ1 : String := "java/lang/StringLatin1"
def TJ1 : u_T := fun k => match k with
  | _ => ("", "", "", false)
def tyJ1 : Nat → FieldType := fun k => match k with
  | _ => .int
theorem nmJ1 : ∀ a, a < 0 → ∀ b, b < 0 → a ≠ b → (TJ1 a).2.1 ≠ (TJ1 b).2.1 := by decide +kernel
theorem tyJ1_ok : ∀ k, k < 0 → parseFieldDescriptor (TJ1 k).2.2.1 = some (tyJ1 k) := by decide +kernel
abbrev cJ1_charAt_3b067 : ByteArray := prog_21_method_2_code
def yJ1_charAt_3b067 : MethodName := ⟨RJ1, "charAt", "([BI)C"⟩
abbrev cJ1_canEncode_9a6ad : ByteArray := prog_21_method_4_code
def yJ1_canEncode_9a6ad : MethodName := ⟨RJ1, "canEncode", "(I)Z"⟩
abbrev cJ1_indexOf_4cfef : ByteArray := prog_21_method_22_code
def yJ1_indexOf_4cfef : MethodName := ⟨RJ1, "indexOf", "([BIII)I"⟩
abbrev cJ1_indexOfChar_4cfef : ByteArray := prog_21_method_23_code
def yJ1_indexOfChar_4cfef : MethodName := ⟨RJ1, "indexOfChar", "([BIII)I"⟩
def RJ2 : String := "java/lang/StringUTF16"
def TJ2 : u_T := fun k => match k with
  | _ => ("", "", "", false)
def tyJ2 : Nat → FieldType := fun k => match k with
  | _ => .int
theorem nmJ2 : ∀ a, a < 0 → ∀ b, b < 0 → a ≠ b → (TJ2 a).2.1 ≠ (TJ2 b).2.1 := by decide +kernel
theorem tyJ2_ok : ∀ k, k < 0 → parseFieldDescriptor (TJ2 k).2.2.1 = some (tyJ2 k) := by decide +kernel
abbrev cJ2_getChar_3b067 : ByteArray := prog_22_method_5_code
def yJ2_getChar_3b067 : MethodName := ⟨RJ2, "getChar", "([BI)C"⟩
abbrev cJ2_length_9d52b : ByteArray := prog_22_method_6_code
def yJ2_length_9d52b : MethodName := ⟨RJ2, "length", "([B)I"⟩
abbrev cJ2_indexOf_4cfef : ByteArray := prog_22_method_40_code
def yJ2_indexOf_4cfef : MethodName := ⟨RJ2, "indexOf", "([BIII)I"⟩
abbrev cJ2_indexOfChar_4cfef : ByteArray := prog_22_method_47_code
def yJ2_indexOfChar_4cfef : MethodName := ⟨RJ2, "indexOfChar", "([BIII)I"⟩
abbrev cJ2_indexOfCharUnsafe_4cfef : ByteArray := prog_22_method_48_code
def yJ2_indexOfCharUnsafe_4cfef : MethodName := ⟨RJ2, "indexOfCharUnsafe", "([BIII)I"⟩
abbrev cJ2_indexOfSupplementary_4cfef : ByteArray := prog_22_method_49_code
def yJ2_indexOfSupplementary_4cfef : MethodName := ⟨RJ2, "indexOfSupplementary", "([BIII)I"⟩
abbrev cJ2_charAt_3b067 : ByteArray := prog_22_method_83_code
def yJ2_charAt_3b067 : MethodName := ⟨RJ2, "charAt", "([BI)C"⟩
abbrev cJ2_checkIndex_2214a : ByteArray := prog_22_method_91_code
def yJ2_checkIndex_2214a : MethodName := ⟨RJ2, "checkIndex", "(I[B)V"⟩
abbrev cJ2_checkBoundsBeginEnd_d044e : ByteArray := prog_22_method_93_code
def yJ2_checkBoundsBeginEnd_d044e : MethodName := ⟨RJ2, "checkBoundsBeginEnd", "(II[B)V"⟩
def RJ10 : String := "java/lang/System"
def TJ10 : u_T := fun k => match k with
  | _ => ("", "", "", false)
def tyJ10 : Nat → FieldType := fun k => match k with
  | _ => .int
theorem nmJ10 : ∀ a, a < 0 → ∀ b, b < 0 → a ≠ b → (TJ10 a).2.1 ≠ (TJ10 b).2.1 := by decide +kernel
theorem tyJ10_ok : ∀ k, k < 0 → parseFieldDescriptor (TJ10 k).2.2.1 = some (tyJ10 k) := by decide +kernel
def RJxfd54e : String := "java/lang/constant/Constable"
def TJxfd54e : u_T := fun k => match k with
  | _ => ("", "", "", false)
def tyJxfd54e : Nat → FieldType := fun k => match k with
  | _ => .int
theorem nmJxfd54e : ∀ a, a < 0 → ∀ b, b < 0 → a ≠ b → (TJxfd54e a).2.1 ≠ (TJxfd54e b).2.1 := by decide +kernel
theorem tyJxfd54e_ok : ∀ k, k < 0 → parseFieldDescriptor (TJxfd54e k).2.2.1 = some (tyJxfd54e k) := by decide +kernel
def RJx3cf43 : String := "java/lang/constant/ConstantDesc"
def TJx3cf43 : u_T := fun k => match k with
  | _ => ("", "", "", false)
def tyJx3cf43 : Nat → FieldType := fun k => match k with
  | _ => .int
theorem nmJx3cf43 : ∀ a, a < 0 → ∀ b, b < 0 → a ≠ b → (TJx3cf43 a).2.1 ≠ (TJx3cf43 b).2.1 := by decide +kernel
theorem tyJx3cf43_ok : ∀ k, k < 0 → parseFieldDescriptor (TJx3cf43 k).2.2.1 = some (tyJx3cf43 k) := by decide +kernel
def RJ7 : String := "java/util/Arrays"
def TJ7 : u_T := fun k => match k with
  | _ => ("", "", "", false)
def tyJ7 : Nat → FieldType := fun k => match k with
  | _ => .int
theorem nmJ7 : ∀ a, a < 0 → ∀ b, b < 0 → a ≠ b → (TJ7 a).2.1 ≠ (TJ7 b).2.1 := by decide +kernel
theorem tyJ7_ok : ∀ k, k < 0 → parseFieldDescriptor (TJ7 k).2.2.1 = some (tyJ7 k) := by decide +kernel
abbrev cJ7_fill_d0a16 : ByteArray := prog_24_method_101_code
def yJ7_fill_d0a16 : MethodName := ⟨RJ7, "fill", "([JJ)V"⟩
abbrev cJ7_fill_53178 : ByteArray := prog_24_method_103_code
def yJ7_fill_53178 : MethodName := ⟨RJ7, "fill", "([II)V"⟩
abbrev cJ7_copyOf_59c91 : ByteArray := prog_24_method_123_code
def yJ7_copyOf_59c91 : MethodName := ⟨RJ7, "copyOf", "([II)[I"⟩
abbrev cJ7_copyOf_c38d5 : ByteArray := prog_24_method_124_code
def yJ7_copyOf_c38d5 : MethodName := ⟨RJ7, "copyOf", "([JI)[J"⟩
def RJ3 : String := "jdk/internal/util/Preconditions"
def TJ3 : u_T := fun k => match k with
  | _ => ("", "", "", false)
def tyJ3 : Nat → FieldType := fun k => match k with
  | _ => .int
theorem nmJ3 : ∀ a, a < 0 → ∀ b, b < 0 → a ≠ b → (TJ3 a).2.1 ≠ (TJ3 b).2.1 := by decide +kernel
theorem tyJ3_ok : ∀ k, k < 0 → parseFieldDescriptor (TJ3 k).2.2.1 = some (tyJ3 k) := by decide +kernel
abbrev cJ3_checkIndex_8e157 : ByteArray := prog_25_method_11_code
def yJ3_checkIndex_8e157 : MethodName := ⟨RJ3, "checkIndex", "(IILjava/util/function/BiFunction;)I"⟩
abbrev cJ3_checkFromToIndex_8c36e : ByteArray := prog_25_method_12_code
def yJ3_checkFromToIndex_8c36e : MethodName := ⟨RJ3, "checkFromToIndex", "(IIILjava/util/function/BiFunction;)I"⟩
def RL : String := "SipMeterLaw"
abbrev cL_law : ByteArray := code
def yL_law : MethodName := ⟨RL, "law", "([I)Z"⟩
abbrev vwCl : List vw_C := [(RX0, TX0, 8), (RX1, TX1, 9), (RX2, TX2, 7), (RX3, TX3, 12), (RX4, TX4, 13), (RX5, TX5, 7), (RX6, TX6, 18), (RX7, TX7, 6), (RX8, TX8, 12), (RX9, TX9, 4), (RX10, TX10, 7), (RX11, TX11, 14), (RX12, TX12, 121)]
