/-! decoded instructions of L_law -/
theorem d_L_law_762 : decode mL_law.2.2.1 762 = .ok (.iaload, 1) := by decide +kernel
theorem d_L_law_763 : decode mL_law.2.2.1 763 = .ok (.invokevirtual 98, 3) := by decide +kernel
theorem d_L_law_766 : decode mL_law.2.2.1 766 = .ok (.if_icmp .eq 232, 3) := by decide +kernel
theorem d_L_law_771 : decode mL_law.2.2.1 771 = .ok (.aload_n 1, 1) := by decide +kernel
theorem d_L_law_772 : decode mL_law.2.2.1 772 = .ok (.aload_n 0, 1) := by decide +kernel
theorem d_L_law_773 : decode mL_law.2.2.1 773 = .ok (.iload_n 3, 1) := by decide +kernel
theorem d_L_law_774 : decode mL_law.2.2.1 774 = .ok (.iconst 1, 1) := by decide +kernel
theorem d_L_law_775 : decode mL_law.2.2.1 775 = .ok (.iadd, 1) := by decide +kernel
theorem d_L_law_776 : decode mL_law.2.2.1 776 = .ok (.iaload, 1) := by decide +kernel
theorem d_L_law_777 : decode mL_law.2.2.1 777 = .ok (.invokevirtual 99, 3) := by decide +kernel
theorem d_L_law_780 : decode mL_law.2.2.1 780 = .ok (.aload_n 2, 1) := by decide +kernel
theorem d_L_law_781 : decode mL_law.2.2.1 781 = .ok (.aload_n 0, 1) := by decide +kernel
theorem d_L_law_782 : decode mL_law.2.2.1 782 = .ok (.iload_n 3, 1) := by decide +kernel
theorem d_L_law_783 : decode mL_law.2.2.1 783 = .ok (.iconst 1, 1) := by decide +kernel
theorem d_L_law_784 : decode mL_law.2.2.1 784 = .ok (.iadd, 1) := by decide +kernel
theorem d_L_law_785 : decode mL_law.2.2.1 785 = .ok (.iaload, 1) := by decide +kernel
theorem d_L_law_786 : decode mL_law.2.2.1 786 = .ok (.invokevirtual 102, 3) := by decide +kernel
theorem d_L_law_789 : decode mL_law.2.2.1 789 = .ok (.if_icmp .eq 209, 3) := by decide +kernel
theorem d_L_law_794 : decode mL_law.2.2.1 794 = .ok (.aload_n 1, 1) := by decide +kernel
theorem d_L_law_795 : decode mL_law.2.2.1 795 = .ok (.aload_n 0, 1) := by decide +kernel
theorem d_L_law_796 : decode mL_law.2.2.1 796 = .ok (.iload_n 3, 1) := by decide +kernel
theorem d_L_law_797 : decode mL_law.2.2.1 797 = .ok (.iconst 1, 1) := by decide +kernel
theorem d_L_law_798 : decode mL_law.2.2.1 798 = .ok (.iadd, 1) := by decide +kernel
theorem d_L_law_799 : decode mL_law.2.2.1 799 = .ok (.iaload, 1) := by decide +kernel
theorem d_L_law_800 : decode mL_law.2.2.1 800 = .ok (.invokevirtual 103, 3) := by decide +kernel
theorem d_L_law_803 : decode mL_law.2.2.1 803 = .ok (.aload_n 2, 1) := by decide +kernel
theorem d_L_law_804 : decode mL_law.2.2.1 804 = .ok (.aload_n 0, 1) := by decide +kernel
theorem d_L_law_805 : decode mL_law.2.2.1 805 = .ok (.iload_n 3, 1) := by decide +kernel
theorem d_L_law_806 : decode mL_law.2.2.1 806 = .ok (.iconst 1, 1) := by decide +kernel
theorem d_L_law_807 : decode mL_law.2.2.1 807 = .ok (.iadd, 1) := by decide +kernel
theorem d_L_law_808 : decode mL_law.2.2.1 808 = .ok (.iaload, 1) := by decide +kernel
theorem d_L_law_809 : decode mL_law.2.2.1 809 = .ok (.invokevirtual 106, 3) := by decide +kernel
theorem d_L_law_812 : decode mL_law.2.2.1 812 = .ok (.if_icmp .eq 186, 3) := by decide +kernel
theorem d_L_law_817 : decode mL_law.2.2.1 817 = .ok (.aload_n 1, 1) := by decide +kernel
theorem d_L_law_818 : decode mL_law.2.2.1 818 = .ok (.aload_n 0, 1) := by decide +kernel
theorem d_L_law_819 : decode mL_law.2.2.1 819 = .ok (.iload_n 3, 1) := by decide +kernel
theorem d_L_law_820 : decode mL_law.2.2.1 820 = .ok (.iconst 1, 1) := by decide +kernel
theorem d_L_law_821 : decode mL_law.2.2.1 821 = .ok (.iadd, 1) := by decide +kernel
theorem d_L_law_822 : decode mL_law.2.2.1 822 = .ok (.iaload, 1) := by decide +kernel
theorem d_L_law_823 : decode mL_law.2.2.1 823 = .ok (.invokevirtual 107, 3) := by decide +kernel
theorem d_L_law_826 : decode mL_law.2.2.1 826 = .ok (.aload_n 2, 1) := by decide +kernel
theorem d_L_law_827 : decode mL_law.2.2.1 827 = .ok (.aload_n 0, 1) := by decide +kernel
theorem d_L_law_828 : decode mL_law.2.2.1 828 = .ok (.iload_n 3, 1) := by decide +kernel
theorem d_L_law_829 : decode mL_law.2.2.1 829 = .ok (.iconst 1, 1) := by decide +kernel
theorem d_L_law_830 : decode mL_law.2.2.1 830 = .ok (.iadd, 1) := by decide +kernel
theorem d_L_law_831 : decode mL_law.2.2.1 831 = .ok (.iaload, 1) := by decide +kernel
theorem d_L_law_832 : decode mL_law.2.2.1 832 = .ok (.invokevirtual 110, 3) := by decide +kernel
theorem d_L_law_835 : decode mL_law.2.2.1 835 = .ok (.if_icmp .eq 163, 3) := by decide +kernel
theorem d_L_law_840 : decode mL_law.2.2.1 840 = .ok (.aload_n 1, 1) := by decide +kernel
theorem d_L_law_841 : decode mL_law.2.2.1 841 = .ok (.aload_n 0, 1) := by decide +kernel
theorem d_L_law_842 : decode mL_law.2.2.1 842 = .ok (.iload_n 3, 1) := by decide +kernel
theorem d_L_law_843 : decode mL_law.2.2.1 843 = .ok (.iconst 1, 1) := by decide +kernel
theorem d_L_law_844 : decode mL_law.2.2.1 844 = .ok (.iadd, 1) := by decide +kernel
theorem d_L_law_845 : decode mL_law.2.2.1 845 = .ok (.iaload, 1) := by decide +kernel
theorem d_L_law_846 : decode mL_law.2.2.1 846 = .ok (.aload_n 0, 1) := by decide +kernel
theorem d_L_law_847 : decode mL_law.2.2.1 847 = .ok (.iload_n 3, 1) := by decide +kernel
theorem d_L_law_848 : decode mL_law.2.2.1 848 = .ok (.iconst 2, 1) := by decide +kernel
theorem d_L_law_849 : decode mL_law.2.2.1 849 = .ok (.iadd, 1) := by decide +kernel
theorem d_L_law_850 : decode mL_law.2.2.1 850 = .ok (.iaload, 1) := by decide +kernel
theorem d_L_law_851 : decode mL_law.2.2.1 851 = .ok (.aload_n 0, 1) := by decide +kernel
theorem d_L_law_852 : decode mL_law.2.2.1 852 = .ok (.iload_n 3, 1) := by decide +kernel
theorem d_L_law_853 : decode mL_law.2.2.1 853 = .ok (.iconst 3, 1) := by decide +kernel
theorem d_L_law_854 : decode mL_law.2.2.1 854 = .ok (.iadd, 1) := by decide +kernel
theorem d_L_law_855 : decode mL_law.2.2.1 855 = .ok (.iaload, 1) := by decide +kernel
theorem d_L_law_856 : decode mL_law.2.2.1 856 = .ok (.invokevirtual 111, 3) := by decide +kernel
theorem d_L_law_859 : decode mL_law.2.2.1 859 = .ok (.aload_n 2, 1) := by decide +kernel
theorem d_L_law_860 : decode mL_law.2.2.1 860 = .ok (.aload_n 0, 1) := by decide +kernel
theorem d_L_law_861 : decode mL_law.2.2.1 861 = .ok (.iload_n 3, 1) := by decide +kernel
theorem d_L_law_862 : decode mL_law.2.2.1 862 = .ok (.iconst 1, 1) := by decide +kernel
theorem d_L_law_863 : decode mL_law.2.2.1 863 = .ok (.iadd, 1) := by decide +kernel
theorem d_L_law_864 : decode mL_law.2.2.1 864 = .ok (.iaload, 1) := by decide +kernel
theorem d_L_law_865 : decode mL_law.2.2.1 865 = .ok (.aload_n 0, 1) := by decide +kernel
theorem d_L_law_866 : decode mL_law.2.2.1 866 = .ok (.iload_n 3, 1) := by decide +kernel
theorem d_L_law_867 : decode mL_law.2.2.1 867 = .ok (.iconst 2, 1) := by decide +kernel
theorem d_L_law_868 : decode mL_law.2.2.1 868 = .ok (.iadd, 1) := by decide +kernel
theorem d_L_law_869 : decode mL_law.2.2.1 869 = .ok (.iaload, 1) := by decide +kernel
theorem d_L_law_870 : decode mL_law.2.2.1 870 = .ok (.aload_n 0, 1) := by decide +kernel
theorem d_L_law_871 : decode mL_law.2.2.1 871 = .ok (.iload_n 3, 1) := by decide +kernel
theorem d_L_law_872 : decode mL_law.2.2.1 872 = .ok (.iconst 3, 1) := by decide +kernel
theorem d_L_law_873 : decode mL_law.2.2.1 873 = .ok (.iadd, 1) := by decide +kernel
theorem d_L_law_874 : decode mL_law.2.2.1 874 = .ok (.iaload, 1) := by decide +kernel
theorem d_L_law_875 : decode mL_law.2.2.1 875 = .ok (.invokevirtual 114, 3) := by decide +kernel
theorem d_L_law_878 : decode mL_law.2.2.1 878 = .ok (.if_icmp .eq 120, 3) := by decide +kernel
theorem d_L_law_883 : decode mL_law.2.2.1 883 = .ok (.aload_n 1, 1) := by decide +kernel
theorem d_L_law_884 : decode mL_law.2.2.1 884 = .ok (.invokevirtual 115, 3) := by decide +kernel
theorem d_L_law_887 : decode mL_law.2.2.1 887 = .ok (.aload_n 2, 1) := by decide +kernel
theorem d_L_law_888 : decode mL_law.2.2.1 888 = .ok (.invokevirtual 118, 3) := by decide +kernel
theorem d_L_law_891 : decode mL_law.2.2.1 891 = .ok (.if_icmp .eq 107, 3) := by decide +kernel
theorem d_L_law_896 : decode mL_law.2.2.1 896 = .ok (.aload_n 1, 1) := by decide +kernel
theorem d_L_law_897 : decode mL_law.2.2.1 897 = .ok (.aload_n 0, 1) := by decide +kernel
theorem d_L_law_898 : decode mL_law.2.2.1 898 = .ok (.iload_n 3, 1) := by decide +kernel
theorem d_L_law_899 : decode mL_law.2.2.1 899 = .ok (.iconst 1, 1) := by decide +kernel
theorem d_L_law_900 : decode mL_law.2.2.1 900 = .ok (.iadd, 1) := by decide +kernel
theorem d_L_law_901 : decode mL_law.2.2.1 901 = .ok (.iaload, 1) := by decide +kernel
theorem d_L_law_902 : decode mL_law.2.2.1 902 = .ok (.invokevirtual 119, 3) := by decide +kernel
theorem d_L_law_905 : decode mL_law.2.2.1 905 = .ok (.aload_n 2, 1) := by decide +kernel
theorem d_L_law_906 : decode mL_law.2.2.1 906 = .ok (.aload_n 0, 1) := by decide +kernel
theorem d_L_law_907 : decode mL_law.2.2.1 907 = .ok (.iload_n 3, 1) := by decide +kernel
theorem d_L_law_908 : decode mL_law.2.2.1 908 = .ok (.iconst 1, 1) := by decide +kernel
theorem d_L_law_909 : decode mL_law.2.2.1 909 = .ok (.iadd, 1) := by decide +kernel
theorem d_L_law_910 : decode mL_law.2.2.1 910 = .ok (.iaload, 1) := by decide +kernel
theorem d_L_law_911 : decode mL_law.2.2.1 911 = .ok (.invokevirtual 122, 3) := by decide +kernel
theorem d_L_law_914 : decode mL_law.2.2.1 914 = .ok (.if_icmp .eq 84, 3) := by decide +kernel
theorem d_L_law_919 : decode mL_law.2.2.1 919 = .ok (.aload_n 1, 1) := by decide +kernel
theorem d_L_law_920 : decode mL_law.2.2.1 920 = .ok (.aload_n 0, 1) := by decide +kernel
theorem d_L_law_921 : decode mL_law.2.2.1 921 = .ok (.iload_n 3, 1) := by decide +kernel
theorem d_L_law_922 : decode mL_law.2.2.1 922 = .ok (.iconst 1, 1) := by decide +kernel
theorem d_L_law_923 : decode mL_law.2.2.1 923 = .ok (.iadd, 1) := by decide +kernel
theorem d_L_law_924 : decode mL_law.2.2.1 924 = .ok (.iaload, 1) := by decide +kernel
theorem d_L_law_925 : decode mL_law.2.2.1 925 = .ok (.invokevirtual 123, 3) := by decide +kernel
theorem d_L_law_928 : decode mL_law.2.2.1 928 = .ok (.aload_n 2, 1) := by decide +kernel
theorem d_L_law_929 : decode mL_law.2.2.1 929 = .ok (.aload_n 0, 1) := by decide +kernel
theorem d_L_law_930 : decode mL_law.2.2.1 930 = .ok (.iload_n 3, 1) := by decide +kernel
theorem d_L_law_931 : decode mL_law.2.2.1 931 = .ok (.iconst 1, 1) := by decide +kernel
theorem d_L_law_932 : decode mL_law.2.2.1 932 = .ok (.iadd, 1) := by decide +kernel
theorem d_L_law_933 : decode mL_law.2.2.1 933 = .ok (.iaload, 1) := by decide +kernel
theorem d_L_law_934 : decode mL_law.2.2.1 934 = .ok (.invokevirtual 126, 3) := by decide +kernel
theorem d_L_law_937 : decode mL_law.2.2.1 937 = .ok (.if_icmp .eq 61, 3) := by decide +kernel
theorem d_L_law_942 : decode mL_law.2.2.1 942 = .ok (.aload_n 1, 1) := by decide +kernel
theorem d_L_law_943 : decode mL_law.2.2.1 943 = .ok (.invokevirtual 127, 3) := by decide +kernel
theorem d_L_law_946 : decode mL_law.2.2.1 946 = .ok (.aload_n 2, 1) := by decide +kernel
theorem d_L_law_947 : decode mL_law.2.2.1 947 = .ok (.invokevirtual 130, 3) := by decide +kernel
theorem d_L_law_950 : decode mL_law.2.2.1 950 = .ok (.if_icmp .eq 48, 3) := by decide +kernel
theorem d_L_law_955 : decode mL_law.2.2.1 955 = .ok (.aload_n 1, 1) := by decide +kernel
theorem d_L_law_956 : decode mL_law.2.2.1 956 = .ok (.aload_n 0, 1) := by decide +kernel
theorem d_L_law_957 : decode mL_law.2.2.1 957 = .ok (.iload_n 3, 1) := by decide +kernel
theorem d_L_law_958 : decode mL_law.2.2.1 958 = .ok (.iconst 1, 1) := by decide +kernel
theorem d_L_law_959 : decode mL_law.2.2.1 959 = .ok (.iadd, 1) := by decide +kernel
theorem d_L_law_960 : decode mL_law.2.2.1 960 = .ok (.iaload, 1) := by decide +kernel
theorem d_L_law_961 : decode mL_law.2.2.1 961 = .ok (.aload_n 0, 1) := by decide +kernel
theorem d_L_law_962 : decode mL_law.2.2.1 962 = .ok (.iload_n 3, 1) := by decide +kernel
theorem d_L_law_963 : decode mL_law.2.2.1 963 = .ok (.iconst 2, 1) := by decide +kernel
theorem d_L_law_964 : decode mL_law.2.2.1 964 = .ok (.iadd, 1) := by decide +kernel
theorem d_L_law_965 : decode mL_law.2.2.1 965 = .ok (.iaload, 1) := by decide +kernel
theorem d_L_law_966 : decode mL_law.2.2.1 966 = .ok (.aload_n 0, 1) := by decide +kernel
theorem d_L_law_967 : decode mL_law.2.2.1 967 = .ok (.iload_n 3, 1) := by decide +kernel
theorem d_L_law_968 : decode mL_law.2.2.1 968 = .ok (.iconst 3, 1) := by decide +kernel
theorem d_L_law_969 : decode mL_law.2.2.1 969 = .ok (.iadd, 1) := by decide +kernel
theorem d_L_law_970 : decode mL_law.2.2.1 970 = .ok (.iaload, 1) := by decide +kernel
theorem d_L_law_971 : decode mL_law.2.2.1 971 = .ok (.invokevirtual 131, 3) := by decide +kernel
theorem d_L_law_974 : decode mL_law.2.2.1 974 = .ok (.aload_n 2, 1) := by decide +kernel
theorem d_L_law_975 : decode mL_law.2.2.1 975 = .ok (.aload_n 0, 1) := by decide +kernel
theorem d_L_law_976 : decode mL_law.2.2.1 976 = .ok (.iload_n 3, 1) := by decide +kernel
theorem d_L_law_977 : decode mL_law.2.2.1 977 = .ok (.iconst 1, 1) := by decide +kernel
theorem d_L_law_978 : decode mL_law.2.2.1 978 = .ok (.iadd, 1) := by decide +kernel
theorem d_L_law_979 : decode mL_law.2.2.1 979 = .ok (.iaload, 1) := by decide +kernel
theorem d_L_law_980 : decode mL_law.2.2.1 980 = .ok (.aload_n 0, 1) := by decide +kernel
theorem d_L_law_981 : decode mL_law.2.2.1 981 = .ok (.iload_n 3, 1) := by decide +kernel
theorem d_L_law_982 : decode mL_law.2.2.1 982 = .ok (.iconst 2, 1) := by decide +kernel
theorem d_L_law_983 : decode mL_law.2.2.1 983 = .ok (.iadd, 1) := by decide +kernel
theorem d_L_law_984 : decode mL_law.2.2.1 984 = .ok (.iaload, 1) := by decide +kernel
theorem d_L_law_985 : decode mL_law.2.2.1 985 = .ok (.aload_n 0, 1) := by decide +kernel
theorem d_L_law_986 : decode mL_law.2.2.1 986 = .ok (.iload_n 3, 1) := by decide +kernel
theorem d_L_law_987 : decode mL_law.2.2.1 987 = .ok (.iconst 3, 1) := by decide +kernel
theorem d_L_law_988 : decode mL_law.2.2.1 988 = .ok (.iadd, 1) := by decide +kernel
theorem d_L_law_989 : decode mL_law.2.2.1 989 = .ok (.iaload, 1) := by decide +kernel
theorem d_L_law_990 : decode mL_law.2.2.1 990 = .ok (.invokevirtual 134, 3) := by decide +kernel
theorem d_L_law_993 : decode mL_law.2.2.1 993 = .ok (.if_icmp .eq 5, 3) := by decide +kernel
theorem d_L_law_27 : decode mL_law.2.2.1 27 = .ok (.aload_n 0, 1) := by decide +kernel
theorem d_L_law_28 : decode mL_law.2.2.1 28 = .ok (.iload_n 3, 1) := by decide +kernel
theorem d_L_law_29 : decode mL_law.2.2.1 29 = .ok (.iaload, 1) := by decide +kernel
theorem d_L_law_30 : decode mL_law.2.2.1 30 = .ok (.bipush 31, 2) := by decide +kernel
theorem d_L_law_32 : decode mL_law.2.2.1 32 = .ok (.iand, 1) := by decide +kernel
theorem d_L_law_33 : decode mL_law.2.2.1 33 = .ok (.tableswitch 965 0 27 #[127, 190, 213, 226, 249, 272, 315, 348, 371, 394, 417, 450, 483, 506, 549, 583, 653, 676, 715, 738, 761, 784, 807, 850, 863, 886, 909, 922], 127) := by decide +kernel
theorem d_L_law_221 : decode mL_law.2.2.1 221 = .ok (.iconst 0, 1) := by decide +kernel
theorem d_L_law_222 : decode mL_law.2.2.1 222 = .ok (.ireturn, 1) := by decide +kernel
theorem d_L_law_244 : decode mL_law.2.2.1 244 = .ok (.iconst 0, 1) := by decide +kernel
theorem d_L_law_245 : decode mL_law.2.2.1 245 = .ok (.ireturn, 1) := by decide +kernel
theorem d_L_law_257 : decode mL_law.2.2.1 257 = .ok (.iconst 0, 1) := by decide +kernel
theorem d_L_law_258 : decode mL_law.2.2.1 258 = .ok (.ireturn, 1) := by decide +kernel
theorem d_L_law_280 : decode mL_law.2.2.1 280 = .ok (.iconst 0, 1) := by decide +kernel
theorem d_L_law_281 : decode mL_law.2.2.1 281 = .ok (.ireturn, 1) := by decide +kernel
theorem d_L_law_303 : decode mL_law.2.2.1 303 = .ok (.iconst 0, 1) := by decide +kernel
theorem d_L_law_304 : decode mL_law.2.2.1 304 = .ok (.ireturn, 1) := by decide +kernel
theorem d_L_law_346 : decode mL_law.2.2.1 346 = .ok (.iconst 0, 1) := by decide +kernel
theorem d_L_law_347 : decode mL_law.2.2.1 347 = .ok (.ireturn, 1) := by decide +kernel
theorem d_L_law_379 : decode mL_law.2.2.1 379 = .ok (.iconst 0, 1) := by decide +kernel
theorem d_L_law_380 : decode mL_law.2.2.1 380 = .ok (.ireturn, 1) := by decide +kernel
theorem d_L_law_402 : decode mL_law.2.2.1 402 = .ok (.iconst 0, 1) := by decide +kernel
theorem d_L_law_403 : decode mL_law.2.2.1 403 = .ok (.ireturn, 1) := by decide +kernel
theorem d_L_law_425 : decode mL_law.2.2.1 425 = .ok (.iconst 0, 1) := by decide +kernel
theorem d_L_law_426 : decode mL_law.2.2.1 426 = .ok (.ireturn, 1) := by decide +kernel
theorem d_L_law_448 : decode mL_law.2.2.1 448 = .ok (.iconst 0, 1) := by decide +kernel
theorem d_L_law_449 : decode mL_law.2.2.1 449 = .ok (.ireturn, 1) := by decide +kernel
theorem d_L_law_481 : decode mL_law.2.2.1 481 = .ok (.iconst 0, 1) := by decide +kernel
theorem d_L_law_482 : decode mL_law.2.2.1 482 = .ok (.ireturn, 1) := by decide +kernel
theorem d_L_law_514 : decode mL_law.2.2.1 514 = .ok (.iconst 0, 1) := by decide +kernel
theorem d_L_law_515 : decode mL_law.2.2.1 515 = .ok (.ireturn, 1) := by decide +kernel
theorem d_L_law_537 : decode mL_law.2.2.1 537 = .ok (.iconst 0, 1) := by decide +kernel
theorem d_L_law_538 : decode mL_law.2.2.1 538 = .ok (.ireturn, 1) := by decide +kernel
theorem d_L_law_580 : decode mL_law.2.2.1 580 = .ok (.iconst 0, 1) := by decide +kernel
theorem d_L_law_581 : decode mL_law.2.2.1 581 = .ok (.ireturn, 1) := by decide +kernel
theorem d_L_law_614 : decode mL_law.2.2.1 614 = .ok (.iconst 0, 1) := by decide +kernel
theorem d_L_law_615 : decode mL_law.2.2.1 615 = .ok (.ireturn, 1) := by decide +kernel
theorem d_L_law_684 : decode mL_law.2.2.1 684 = .ok (.iconst 0, 1) := by decide +kernel
theorem d_L_law_685 : decode mL_law.2.2.1 685 = .ok (.ireturn, 1) := by decide +kernel
theorem d_L_law_707 : decode mL_law.2.2.1 707 = .ok (.iconst 0, 1) := by decide +kernel
theorem d_L_law_708 : decode mL_law.2.2.1 708 = .ok (.ireturn, 1) := by decide +kernel
theorem d_L_law_746 : decode mL_law.2.2.1 746 = .ok (.iconst 0, 1) := by decide +kernel
theorem d_L_law_747 : decode mL_law.2.2.1 747 = .ok (.ireturn, 1) := by decide +kernel
theorem d_L_law_769 : decode mL_law.2.2.1 769 = .ok (.iconst 0, 1) := by decide +kernel
theorem d_L_law_770 : decode mL_law.2.2.1 770 = .ok (.ireturn, 1) := by decide +kernel
theorem d_L_law_792 : decode mL_law.2.2.1 792 = .ok (.iconst 0, 1) := by decide +kernel
theorem d_L_law_793 : decode mL_law.2.2.1 793 = .ok (.ireturn, 1) := by decide +kernel
theorem d_L_law_815 : decode mL_law.2.2.1 815 = .ok (.iconst 0, 1) := by decide +kernel
theorem d_L_law_816 : decode mL_law.2.2.1 816 = .ok (.ireturn, 1) := by decide +kernel
theorem d_L_law_838 : decode mL_law.2.2.1 838 = .ok (.iconst 0, 1) := by decide +kernel
theorem d_L_law_839 : decode mL_law.2.2.1 839 = .ok (.ireturn, 1) := by decide +kernel
theorem d_L_law_881 : decode mL_law.2.2.1 881 = .ok (.iconst 0, 1) := by decide +kernel
theorem d_L_law_882 : decode mL_law.2.2.1 882 = .ok (.ireturn, 1) := by decide +kernel
theorem d_L_law_894 : decode mL_law.2.2.1 894 = .ok (.iconst 0, 1) := by decide +kernel
theorem d_L_law_895 : decode mL_law.2.2.1 895 = .ok (.ireturn, 1) := by decide +kernel
theorem d_L_law_917 : decode mL_law.2.2.1 917 = .ok (.iconst 0, 1) := by decide +kernel
theorem d_L_law_918 : decode mL_law.2.2.1 918 = .ok (.ireturn, 1) := by decide +kernel
theorem d_L_law_940 : decode mL_law.2.2.1 940 = .ok (.iconst 0, 1) := by decide +kernel
theorem d_L_law_941 : decode mL_law.2.2.1 941 = .ok (.ireturn, 1) := by decide +kernel
theorem d_L_law_953 : decode mL_law.2.2.1 953 = .ok (.iconst 0, 1) := by decide +kernel
theorem d_L_law_954 : decode mL_law.2.2.1 954 = .ok (.ireturn, 1) := by decide +kernel
theorem d_L_law_996 : decode mL_law.2.2.1 996 = .ok (.iconst 0, 1) := by decide +kernel
theorem d_L_law_997 : decode mL_law.2.2.1 997 = .ok (.ireturn, 1) := by decide +kernel
