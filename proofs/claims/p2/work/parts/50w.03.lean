theorem d_L_law_867 : decode mL_law.2.2.1 867 = .ok (.iadd, 1) := by decide +kernel
theorem d_L_law_868 : decode mL_law.2.2.1 868 = .ok (.iaload, 1) := by decide +kernel
theorem d_L_law_869 : decode mL_law.2.2.1 869 = .ok (.aload_n 0, 1) := by decide +kernel
theorem d_L_law_870 : decode mL_law.2.2.1 870 = .ok (.iload_n 3, 1) := by decide +kernel
theorem d_L_law_871 : decode mL_law.2.2.1 871 = .ok (.iconst 3, 1) := by decide +kernel
theorem d_L_law_872 : decode mL_law.2.2.1 872 = .ok (.iadd, 1) := by decide +kernel
theorem d_L_law_873 : decode mL_law.2.2.1 873 = .ok (.iaload, 1) := by decide +kernel
theorem d_L_law_874 : decode mL_law.2.2.1 874 = .ok (.invokevirtual 114, 3) := by decide +kernel
theorem sel_X12_ask : Cond.instanceMethod mX12_ask.2.1 ∈ tblG ∧ Cond.selects mX12_ask.2.1.cls mX12_ask.2.1 mX12_ask.2.1 ∈ tblG := ⟨tblG_in (inT10 (List.mem_of_getElem? (i := 7) rfl)) rfl, tblG_in (inT10 (List.mem_of_getElem? (i := 8) rfl)) rfl⟩
theorem s_13_114 : e_siteV 13 114 mX12_ask 12 := ⟨tblG_in (inT10 (List.mem_of_getElem? (i := 6) rfl)) rfl, sel_X12_ask.1, sel_X12_ask.2, rfl⟩
theorem ok_X12_ask : e_m mX12_ask 3 := ⟨tblG_in (inT10 (List.mem_of_getElem? (i := 9) rfl)) rfl, plainFor_of_name (by decide), rfl, ini_12, by decide +kernel, by decide⟩
theorem d_L_law_877 : decode mL_law.2.2.1 877 = .ok (.pop, 1) := by decide +kernel
theorem d_L_law_878 : decode mL_law.2.2.1 878 = .ok (.goto 118, 3) := by decide +kernel
theorem d_L_law_881 : decode mL_law.2.2.1 881 = .ok (.aload_n 1, 1) := by decide +kernel
theorem d_L_law_882 : decode mL_law.2.2.1 882 = .ok (.invokevirtual 115, 3) := by decide +kernel
theorem sel_X11_forget : Cond.instanceMethod mX11_forget.2.1 ∈ tblG ∧ Cond.selects mX11_forget.2.1.cls mX11_forget.2.1 mX11_forget.2.1 ∈ tblG := ⟨tblG_in (inT6 (List.mem_of_getElem? (i := 124) rfl)) rfl, tblG_in (inT6 (List.mem_of_getElem? (i := 125) rfl)) rfl⟩
theorem s_13_115 : e_siteV 13 115 mX11_forget 11 := ⟨tblG_in (inT6 (List.mem_of_getElem? (i := 123) rfl)) rfl, sel_X11_forget.1, sel_X11_forget.2, rfl⟩
theorem ok_X11_forget : e_m mX11_forget 0 := ⟨tblG_in (inT6 (List.mem_of_getElem? (i := 126) rfl)) rfl, plainFor_of_name (by decide), rfl, ini_11, by decide +kernel, by decide⟩
theorem d_L_law_885 : decode mL_law.2.2.1 885 = .ok (.pop, 1) := by decide +kernel
theorem d_L_law_886 : decode mL_law.2.2.1 886 = .ok (.aload_n 2, 1) := by decide +kernel
theorem d_L_law_887 : decode mL_law.2.2.1 887 = .ok (.invokevirtual 118, 3) := by decide +kernel
theorem sel_X12_forget : Cond.instanceMethod mX12_forget.2.1 ∈ tblG ∧ Cond.selects mX12_forget.2.1.cls mX12_forget.2.1 mX12_forget.2.1 ∈ tblG := ⟨tblG_in (inT10 (List.mem_of_getElem? (i := 11) rfl)) rfl, tblG_in (inT10 (List.mem_of_getElem? (i := 12) rfl)) rfl⟩
theorem s_13_118 : e_siteV 13 118 mX12_forget 12 := ⟨tblG_in (inT10 (List.mem_of_getElem? (i := 10) rfl)) rfl, sel_X12_forget.1, sel_X12_forget.2, rfl⟩
theorem ok_X12_forget : e_m mX12_forget 0 := ⟨tblG_in (inT10 (List.mem_of_getElem? (i := 13) rfl)) rfl, plainFor_of_name (by decide), rfl, ini_12, by decide +kernel, by decide⟩
theorem d_L_law_890 : decode mL_law.2.2.1 890 = .ok (.pop, 1) := by decide +kernel
theorem d_L_law_891 : decode mL_law.2.2.1 891 = .ok (.goto 105, 3) := by decide +kernel
theorem d_L_law_894 : decode mL_law.2.2.1 894 = .ok (.aload_n 1, 1) := by decide +kernel
theorem d_L_law_895 : decode mL_law.2.2.1 895 = .ok (.aload_n 0, 1) := by decide +kernel
theorem d_L_law_896 : decode mL_law.2.2.1 896 = .ok (.iload_n 3, 1) := by decide +kernel
theorem d_L_law_897 : decode mL_law.2.2.1 897 = .ok (.iconst 1, 1) := by decide +kernel
theorem d_L_law_898 : decode mL_law.2.2.1 898 = .ok (.iadd, 1) := by decide +kernel
theorem d_L_law_899 : decode mL_law.2.2.1 899 = .ok (.iaload, 1) := by decide +kernel
theorem d_L_law_900 : decode mL_law.2.2.1 900 = .ok (.invokevirtual 119, 3) := by decide +kernel
theorem sel_X11_together : Cond.instanceMethod mX11_together.2.1 ∈ tblG ∧ Cond.selects mX11_together.2.1.cls mX11_together.2.1 mX11_together.2.1 ∈ tblG := ⟨tblG_in (inT6 (List.mem_of_getElem? (i := 128) rfl)) rfl, tblG_in (inT6 (List.mem_of_getElem? (i := 129) rfl)) rfl⟩
theorem s_13_119 : e_siteV 13 119 mX11_together 11 := ⟨tblG_in (inT6 (List.mem_of_getElem? (i := 127) rfl)) rfl, sel_X11_together.1, sel_X11_together.2, rfl⟩
theorem ok_X11_together : e_m mX11_together 1 := ⟨tblG_in (inT6 (List.mem_of_getElem? (i := 130) rfl)) rfl, plainFor_of_name (by decide), rfl, ini_11, by decide +kernel, by decide⟩
theorem d_L_law_903 : decode mL_law.2.2.1 903 = .ok (.pop, 1) := by decide +kernel
theorem d_L_law_904 : decode mL_law.2.2.1 904 = .ok (.aload_n 2, 1) := by decide +kernel
theorem d_L_law_905 : decode mL_law.2.2.1 905 = .ok (.aload_n 0, 1) := by decide +kernel
theorem d_L_law_906 : decode mL_law.2.2.1 906 = .ok (.iload_n 3, 1) := by decide +kernel
theorem d_L_law_907 : decode mL_law.2.2.1 907 = .ok (.iconst 1, 1) := by decide +kernel
theorem d_L_law_908 : decode mL_law.2.2.1 908 = .ok (.iadd, 1) := by decide +kernel
theorem d_L_law_909 : decode mL_law.2.2.1 909 = .ok (.iaload, 1) := by decide +kernel
theorem d_L_law_910 : decode mL_law.2.2.1 910 = .ok (.invokevirtual 122, 3) := by decide +kernel
theorem sel_X12_together : Cond.instanceMethod mX12_together.2.1 ∈ tblG ∧ Cond.selects mX12_together.2.1.cls mX12_together.2.1 mX12_together.2.1 ∈ tblG := ⟨tblG_in (inT10 (List.mem_of_getElem? (i := 15) rfl)) rfl, tblG_in (inT10 (List.mem_of_getElem? (i := 16) rfl)) rfl⟩
theorem s_13_122 : e_siteV 13 122 mX12_together 12 := ⟨tblG_in (inT10 (List.mem_of_getElem? (i := 14) rfl)) rfl, sel_X12_together.1, sel_X12_together.2, rfl⟩
theorem ok_X12_together : e_m mX12_together 1 := ⟨tblG_in (inT10 (List.mem_of_getElem? (i := 17) rfl)) rfl, plainFor_of_name (by decide), rfl, ini_12, by decide +kernel, by decide⟩
theorem d_L_law_913 : decode mL_law.2.2.1 913 = .ok (.pop, 1) := by decide +kernel
theorem d_L_law_914 : decode mL_law.2.2.1 914 = .ok (.goto 82, 3) := by decide +kernel
theorem d_L_law_917 : decode mL_law.2.2.1 917 = .ok (.aload_n 1, 1) := by decide +kernel
theorem d_L_law_918 : decode mL_law.2.2.1 918 = .ok (.aload_n 0, 1) := by decide +kernel
theorem d_L_law_919 : decode mL_law.2.2.1 919 = .ok (.iload_n 3, 1) := by decide +kernel
theorem d_L_law_920 : decode mL_law.2.2.1 920 = .ok (.iconst 1, 1) := by decide +kernel
theorem d_L_law_921 : decode mL_law.2.2.1 921 = .ok (.iadd, 1) := by decide +kernel
theorem d_L_law_922 : decode mL_law.2.2.1 922 = .ok (.iaload, 1) := by decide +kernel
theorem d_L_law_923 : decode mL_law.2.2.1 923 = .ok (.invokevirtual 123, 3) := by decide +kernel
theorem sel_X11_later : Cond.instanceMethod mX11_later.2.1 ∈ tblG ∧ Cond.selects mX11_later.2.1.cls mX11_later.2.1 mX11_later.2.1 ∈ tblG := ⟨tblG_in (inT6 (List.mem_of_getElem? (i := 155) rfl)) rfl, tblG_in (inT6 (List.mem_of_getElem? (i := 156) rfl)) rfl⟩
theorem s_13_123 : e_siteV 13 123 mX11_later 11 := ⟨tblG_in (inT6 (List.mem_of_getElem? (i := 154) rfl)) rfl, sel_X11_later.1, sel_X11_later.2, rfl⟩
theorem ok_X11_later : e_m mX11_later 1 := ⟨tblG_in (inT6 (List.mem_of_getElem? (i := 157) rfl)) rfl, plainFor_of_name (by decide), rfl, ini_11, by decide +kernel, by decide⟩
theorem d_L_law_926 : decode mL_law.2.2.1 926 = .ok (.pop, 1) := by decide +kernel
theorem d_L_law_927 : decode mL_law.2.2.1 927 = .ok (.aload_n 2, 1) := by decide +kernel
theorem d_L_law_928 : decode mL_law.2.2.1 928 = .ok (.aload_n 0, 1) := by decide +kernel
theorem d_L_law_929 : decode mL_law.2.2.1 929 = .ok (.iload_n 3, 1) := by decide +kernel
theorem d_L_law_930 : decode mL_law.2.2.1 930 = .ok (.iconst 1, 1) := by decide +kernel
theorem d_L_law_931 : decode mL_law.2.2.1 931 = .ok (.iadd, 1) := by decide +kernel
theorem d_L_law_932 : decode mL_law.2.2.1 932 = .ok (.iaload, 1) := by decide +kernel
theorem d_L_law_933 : decode mL_law.2.2.1 933 = .ok (.invokevirtual 126, 3) := by decide +kernel
theorem sel_X12_later : Cond.instanceMethod mX12_later.2.1 ∈ tblG ∧ Cond.selects mX12_later.2.1.cls mX12_later.2.1 mX12_later.2.1 ∈ tblG := ⟨tblG_in (inT10 (List.mem_of_getElem? (i := 23) rfl)) rfl, tblG_in (inT10 (List.mem_of_getElem? (i := 24) rfl)) rfl⟩
theorem s_13_126 : e_siteV 13 126 mX12_later 12 := ⟨tblG_in (inT10 (List.mem_of_getElem? (i := 22) rfl)) rfl, sel_X12_later.1, sel_X12_later.2, rfl⟩
theorem ok_X12_later : e_m mX12_later 1 := ⟨tblG_in (inT10 (List.mem_of_getElem? (i := 25) rfl)) rfl, plainFor_of_name (by decide), rfl, ini_12, by decide +kernel, by decide⟩
theorem d_L_law_936 : decode mL_law.2.2.1 936 = .ok (.pop, 1) := by decide +kernel
theorem d_L_law_937 : decode mL_law.2.2.1 937 = .ok (.goto 59, 3) := by decide +kernel
theorem d_L_law_940 : decode mL_law.2.2.1 940 = .ok (.aload_n 1, 1) := by decide +kernel
theorem d_L_law_941 : decode mL_law.2.2.1 941 = .ok (.invokevirtual 127, 3) := by decide +kernel
theorem sel_X11_never : Cond.instanceMethod mX11_never.2.1 ∈ tblG ∧ Cond.selects mX11_never.2.1.cls mX11_never.2.1 mX11_never.2.1 ∈ tblG := ⟨tblG_in (inT6 (List.mem_of_getElem? (i := 159) rfl)) rfl, tblG_in (inT6 (List.mem_of_getElem? (i := 160) rfl)) rfl⟩
theorem s_13_127 : e_siteV 13 127 mX11_never 11 := ⟨tblG_in (inT6 (List.mem_of_getElem? (i := 158) rfl)) rfl, sel_X11_never.1, sel_X11_never.2, rfl⟩
theorem ok_X11_never : e_m mX11_never 0 := ⟨tblG_in (inT6 (List.mem_of_getElem? (i := 161) rfl)) rfl, plainFor_of_name (by decide), rfl, ini_11, by decide +kernel, by decide⟩
theorem d_L_law_944 : decode mL_law.2.2.1 944 = .ok (.pop, 1) := by decide +kernel
theorem d_L_law_945 : decode mL_law.2.2.1 945 = .ok (.aload_n 2, 1) := by decide +kernel
theorem d_L_law_946 : decode mL_law.2.2.1 946 = .ok (.invokevirtual 130, 3) := by decide +kernel
theorem sel_X12_never : Cond.instanceMethod mX12_never.2.1 ∈ tblG ∧ Cond.selects mX12_never.2.1.cls mX12_never.2.1 mX12_never.2.1 ∈ tblG := ⟨tblG_in (inT10 (List.mem_of_getElem? (i := 27) rfl)) rfl, tblG_in (inT10 (List.mem_of_getElem? (i := 28) rfl)) rfl⟩
theorem s_13_130 : e_siteV 13 130 mX12_never 12 := ⟨tblG_in (inT10 (List.mem_of_getElem? (i := 26) rfl)) rfl, sel_X12_never.1, sel_X12_never.2, rfl⟩
theorem ok_X12_never : e_m mX12_never 0 := ⟨tblG_in (inT10 (List.mem_of_getElem? (i := 29) rfl)) rfl, plainFor_of_name (by decide), rfl, ini_12, by decide +kernel, by decide⟩
theorem d_L_law_949 : decode mL_law.2.2.1 949 = .ok (.pop, 1) := by decide +kernel
theorem d_L_law_950 : decode mL_law.2.2.1 950 = .ok (.goto 46, 3) := by decide +kernel
theorem d_L_law_953 : decode mL_law.2.2.1 953 = .ok (.aload_n 1, 1) := by decide +kernel
theorem d_L_law_954 : decode mL_law.2.2.1 954 = .ok (.aload_n 0, 1) := by decide +kernel
theorem d_L_law_955 : decode mL_law.2.2.1 955 = .ok (.iload_n 3, 1) := by decide +kernel
theorem d_L_law_956 : decode mL_law.2.2.1 956 = .ok (.iconst 1, 1) := by decide +kernel
theorem d_L_law_957 : decode mL_law.2.2.1 957 = .ok (.iadd, 1) := by decide +kernel
theorem d_L_law_958 : decode mL_law.2.2.1 958 = .ok (.iaload, 1) := by decide +kernel
theorem d_L_law_959 : decode mL_law.2.2.1 959 = .ok (.aload_n 0, 1) := by decide +kernel
theorem d_L_law_960 : decode mL_law.2.2.1 960 = .ok (.iload_n 3, 1) := by decide +kernel
theorem d_L_law_961 : decode mL_law.2.2.1 961 = .ok (.iconst 2, 1) := by decide +kernel
theorem d_L_law_962 : decode mL_law.2.2.1 962 = .ok (.iadd, 1) := by decide +kernel
theorem d_L_law_963 : decode mL_law.2.2.1 963 = .ok (.iaload, 1) := by decide +kernel
theorem d_L_law_964 : decode mL_law.2.2.1 964 = .ok (.aload_n 0, 1) := by decide +kernel
theorem d_L_law_965 : decode mL_law.2.2.1 965 = .ok (.iload_n 3, 1) := by decide +kernel
theorem d_L_law_966 : decode mL_law.2.2.1 966 = .ok (.iconst 3, 1) := by decide +kernel
theorem d_L_law_967 : decode mL_law.2.2.1 967 = .ok (.iadd, 1) := by decide +kernel
theorem d_L_law_968 : decode mL_law.2.2.1 968 = .ok (.iaload, 1) := by decide +kernel
theorem d_L_law_969 : decode mL_law.2.2.1 969 = .ok (.invokevirtual 131, 3) := by decide +kernel
theorem sel_X11_lasts : Cond.instanceMethod mX11_lasts.2.1 ∈ tblG ∧ Cond.selects mX11_lasts.2.1.cls mX11_lasts.2.1 mX11_lasts.2.1 ∈ tblG := ⟨tblG_in (inT6 (List.mem_of_getElem? (i := 176) rfl)) rfl, tblG_in (inT6 (List.mem_of_getElem? (i := 177) rfl)) rfl⟩
theorem s_13_131 : e_siteV 13 131 mX11_lasts 11 := ⟨tblG_in (inT6 (List.mem_of_getElem? (i := 175) rfl)) rfl, sel_X11_lasts.1, sel_X11_lasts.2, rfl⟩
theorem ok_X11_lasts : e_m mX11_lasts 3 := ⟨tblG_in (inT6 (List.mem_of_getElem? (i := 178) rfl)) rfl, plainFor_of_name (by decide), rfl, ini_11, by decide +kernel, by decide⟩
theorem d_L_law_972 : decode mL_law.2.2.1 972 = .ok (.pop, 1) := by decide +kernel
theorem d_L_law_973 : decode mL_law.2.2.1 973 = .ok (.aload_n 2, 1) := by decide +kernel
theorem d_L_law_974 : decode mL_law.2.2.1 974 = .ok (.aload_n 0, 1) := by decide +kernel
theorem d_L_law_975 : decode mL_law.2.2.1 975 = .ok (.iload_n 3, 1) := by decide +kernel
theorem d_L_law_976 : decode mL_law.2.2.1 976 = .ok (.iconst 1, 1) := by decide +kernel
theorem d_L_law_977 : decode mL_law.2.2.1 977 = .ok (.iadd, 1) := by decide +kernel
theorem d_L_law_978 : decode mL_law.2.2.1 978 = .ok (.iaload, 1) := by decide +kernel
theorem d_L_law_979 : decode mL_law.2.2.1 979 = .ok (.aload_n 0, 1) := by decide +kernel
theorem d_L_law_980 : decode mL_law.2.2.1 980 = .ok (.iload_n 3, 1) := by decide +kernel
theorem d_L_law_981 : decode mL_law.2.2.1 981 = .ok (.iconst 2, 1) := by decide +kernel
theorem d_L_law_982 : decode mL_law.2.2.1 982 = .ok (.iadd, 1) := by decide +kernel
theorem d_L_law_983 : decode mL_law.2.2.1 983 = .ok (.iaload, 1) := by decide +kernel
theorem d_L_law_984 : decode mL_law.2.2.1 984 = .ok (.aload_n 0, 1) := by decide +kernel
theorem d_L_law_985 : decode mL_law.2.2.1 985 = .ok (.iload_n 3, 1) := by decide +kernel
theorem d_L_law_986 : decode mL_law.2.2.1 986 = .ok (.iconst 3, 1) := by decide +kernel
theorem d_L_law_987 : decode mL_law.2.2.1 987 = .ok (.iadd, 1) := by decide +kernel
theorem d_L_law_988 : decode mL_law.2.2.1 988 = .ok (.iaload, 1) := by decide +kernel
theorem d_L_law_989 : decode mL_law.2.2.1 989 = .ok (.invokevirtual 134, 3) := by decide +kernel
theorem sel_X12_lasts : Cond.instanceMethod mX12_lasts.2.1 ∈ tblG ∧ Cond.selects mX12_lasts.2.1.cls mX12_lasts.2.1 mX12_lasts.2.1 ∈ tblG := ⟨tblG_in (inT10 (List.mem_of_getElem? (i := 34) rfl)) rfl, tblG_in (inT10 (List.mem_of_getElem? (i := 35) rfl)) rfl⟩
theorem s_13_134 : e_siteV 13 134 mX12_lasts 12 := ⟨tblG_in (inT10 (List.mem_of_getElem? (i := 33) rfl)) rfl, sel_X12_lasts.1, sel_X12_lasts.2, rfl⟩
theorem ok_X12_lasts : e_m mX12_lasts 3 := ⟨tblG_in (inT10 (List.mem_of_getElem? (i := 36) rfl)) rfl, plainFor_of_name (by decide), rfl, ini_12, by decide +kernel, by decide⟩
theorem d_L_law_992 : decode mL_law.2.2.1 992 = .ok (.pop, 1) := by decide +kernel
theorem d_L_law_993 : decode mL_law.2.2.1 993 = .ok (.goto 3, 3) := by decide +kernel
theorem d_L_law_18 : decode mL_law.2.2.1 18 = .ok (.iload_n 3, 1) := by decide +kernel
theorem d_L_law_19 : decode mL_law.2.2.1 19 = .ok (.aload_n 0, 1) := by decide +kernel
theorem d_L_law_20 : decode mL_law.2.2.1 20 = .ok (.arraylength, 1) := by decide +kernel
theorem d_L_law_21 : decode mL_law.2.2.1 21 = .ok (.bipush 6, 2) := by decide +kernel
theorem d_L_law_23 : decode mL_law.2.2.1 23 = .ok (.isub, 1) := by decide +kernel
theorem d_L_law_24 : decode mL_law.2.2.1 24 = .ok (.if_icmp .gt 978, 3) := by decide +kernel
theorem d_L_law_27 : decode mL_law.2.2.1 27 = .ok (.aload_n 0, 1) := by decide +kernel
theorem d_L_law_28 : decode mL_law.2.2.1 28 = .ok (.iload_n 3, 1) := by decide +kernel
theorem d_L_law_29 : decode mL_law.2.2.1 29 = .ok (.iaload, 1) := by decide +kernel
theorem d_L_law_30 : decode mL_law.2.2.1 30 = .ok (.bipush 31, 2) := by decide +kernel
theorem d_L_law_32 : decode mL_law.2.2.1 32 = .ok (.iand, 1) := by decide +kernel
theorem d_L_law_33 : decode mL_law.2.2.1 33 = .ok (.tableswitch 963 0 27 #[127, 190, 213, 226, 249, 272, 315, 348, 371, 394, 417, 450, 483, 506, 549, 582, 651, 674, 713, 736, 759, 782, 805, 848, 861, 884, 907, 920], 127) := by decide +kernel
theorem d_L_law_996 : decode mL_law.2.2.1 996 = .ok (.iinc 3 6, 3) := by decide +kernel
theorem d_L_law_999 : decode mL_law.2.2.1 999 = .ok (.goto (-981), 3) := by decide +kernel
theorem d_L_law_1002 : decode mL_law.2.2.1 1002 = .ok (.iconst 1, 1) := by decide +kernel
theorem d_L_law_1003 : decode mL_law.2.2.1 1003 = .ok (.ireturn, 1) := by decide +kernel
