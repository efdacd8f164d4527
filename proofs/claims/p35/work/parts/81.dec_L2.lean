theorem dL_law_888_b : (decode cL_law 888 = .ok (.iconst 0, 1)) ∧ (decode cL_law 889 = .ok (.invokevirtual 95, 3)) ∧ (decode cL_law 892 = .ok (.pop, 1)) ∧ (decode cL_law 893 = .ok (.aload_n 2, 1)) ∧ (decode cL_law 894 = .ok (.aload_n 0, 1)) ∧ (decode cL_law 895 = .ok (.iload_n 3, 1)) ∧ (decode cL_law 896 = .ok (.iconst 1, 1)) ∧ (decode cL_law 897 = .ok (.iadd, 1)) := by decide +kernel
theorem dL_law_888 : decode cL_law 888 = .ok (.iconst 0, 1) := dL_law_888_b.1
theorem dL_law_889 : decode cL_law 889 = .ok (.invokevirtual 95, 3) := dL_law_888_b.2.1
theorem dL_law_892 : decode cL_law 892 = .ok (.pop, 1) := dL_law_888_b.2.2.1
theorem dL_law_893 : decode cL_law 893 = .ok (.aload_n 2, 1) := dL_law_888_b.2.2.2.1
theorem dL_law_894 : decode cL_law 894 = .ok (.aload_n 0, 1) := dL_law_888_b.2.2.2.2.1
theorem dL_law_895 : decode cL_law 895 = .ok (.iload_n 3, 1) := dL_law_888_b.2.2.2.2.2.1
theorem dL_law_896 : decode cL_law 896 = .ok (.iconst 1, 1) := dL_law_888_b.2.2.2.2.2.2.1
theorem dL_law_897 : decode cL_law 897 = .ok (.iadd, 1) := dL_law_888_b.2.2.2.2.2.2.2
theorem dL_law_898_b : (decode cL_law 898 = .ok (.iaload, 1)) ∧ (decode cL_law 899 = .ok (.aload_n 0, 1)) ∧ (decode cL_law 900 = .ok (.iload_n 3, 1)) ∧ (decode cL_law 901 = .ok (.iconst 2, 1)) ∧ (decode cL_law 902 = .ok (.iadd, 1)) ∧ (decode cL_law 903 = .ok (.iaload, 1)) ∧ (decode cL_law 904 = .ok (.ifCond .eq 7, 3)) ∧ (decode cL_law 907 = .ok (.iconst 1, 1)) := by decide +kernel
theorem dL_law_898 : decode cL_law 898 = .ok (.iaload, 1) := dL_law_898_b.1
theorem dL_law_899 : decode cL_law 899 = .ok (.aload_n 0, 1) := dL_law_898_b.2.1
theorem dL_law_900 : decode cL_law 900 = .ok (.iload_n 3, 1) := dL_law_898_b.2.2.1
theorem dL_law_901 : decode cL_law 901 = .ok (.iconst 2, 1) := dL_law_898_b.2.2.2.1
theorem dL_law_902 : decode cL_law 902 = .ok (.iadd, 1) := dL_law_898_b.2.2.2.2.1
theorem dL_law_903 : decode cL_law 903 = .ok (.iaload, 1) := dL_law_898_b.2.2.2.2.2.1
theorem dL_law_904 : decode cL_law 904 = .ok (.ifCond .eq 7, 3) := dL_law_898_b.2.2.2.2.2.2.1
theorem dL_law_907 : decode cL_law 907 = .ok (.iconst 1, 1) := dL_law_898_b.2.2.2.2.2.2.2
theorem dL_law_908_b : (decode cL_law 908 = .ok (.goto 4, 3)) ∧ (decode cL_law 911 = .ok (.iconst 0, 1)) ∧ (decode cL_law 912 = .ok (.invokevirtual 98, 3)) ∧ (decode cL_law 915 = .ok (.pop, 1)) ∧ (decode cL_law 916 = .ok (.goto 507, 3)) ∧ (decode cL_law 919 = .ok (.aload_n 1, 1)) ∧ (decode cL_law 920 = .ok (.aload_n 0, 1)) ∧ (decode cL_law 921 = .ok (.iload_n 3, 1)) := by decide +kernel
theorem dL_law_908 : decode cL_law 908 = .ok (.goto 4, 3) := dL_law_908_b.1
theorem dL_law_911 : decode cL_law 911 = .ok (.iconst 0, 1) := dL_law_908_b.2.1
theorem dL_law_912 : decode cL_law 912 = .ok (.invokevirtual 98, 3) := dL_law_908_b.2.2.1
theorem dL_law_915 : decode cL_law 915 = .ok (.pop, 1) := dL_law_908_b.2.2.2.1
theorem dL_law_916 : decode cL_law 916 = .ok (.goto 507, 3) := dL_law_908_b.2.2.2.2.1
theorem dL_law_919 : decode cL_law 919 = .ok (.aload_n 1, 1) := dL_law_908_b.2.2.2.2.2.1
theorem dL_law_920 : decode cL_law 920 = .ok (.aload_n 0, 1) := dL_law_908_b.2.2.2.2.2.2.1
theorem dL_law_921 : decode cL_law 921 = .ok (.iload_n 3, 1) := dL_law_908_b.2.2.2.2.2.2.2
theorem dL_law_922_b : (decode cL_law 922 = .ok (.iconst 1, 1)) ∧ (decode cL_law 923 = .ok (.iadd, 1)) ∧ (decode cL_law 924 = .ok (.iaload, 1)) ∧ (decode cL_law 925 = .ok (.aload_n 0, 1)) ∧ (decode cL_law 926 = .ok (.iload_n 3, 1)) ∧ (decode cL_law 927 = .ok (.iconst 2, 1)) ∧ (decode cL_law 928 = .ok (.iadd, 1)) ∧ (decode cL_law 929 = .ok (.iaload, 1)) := by decide +kernel
theorem dL_law_922 : decode cL_law 922 = .ok (.iconst 1, 1) := dL_law_922_b.1
theorem dL_law_923 : decode cL_law 923 = .ok (.iadd, 1) := dL_law_922_b.2.1
theorem dL_law_924 : decode cL_law 924 = .ok (.iaload, 1) := dL_law_922_b.2.2.1
theorem dL_law_925 : decode cL_law 925 = .ok (.aload_n 0, 1) := dL_law_922_b.2.2.2.1
theorem dL_law_926 : decode cL_law 926 = .ok (.iload_n 3, 1) := dL_law_922_b.2.2.2.2.1
theorem dL_law_927 : decode cL_law 927 = .ok (.iconst 2, 1) := dL_law_922_b.2.2.2.2.2.1
theorem dL_law_928 : decode cL_law 928 = .ok (.iadd, 1) := dL_law_922_b.2.2.2.2.2.2.1
theorem dL_law_929 : decode cL_law 929 = .ok (.iaload, 1) := dL_law_922_b.2.2.2.2.2.2.2
theorem dL_law_930_b : (decode cL_law 930 = .ok (.invokevirtual 99, 3)) ∧ (decode cL_law 933 = .ok (.pop, 1)) ∧ (decode cL_law 934 = .ok (.aload_n 2, 1)) ∧ (decode cL_law 935 = .ok (.aload_n 0, 1)) ∧ (decode cL_law 936 = .ok (.iload_n 3, 1)) ∧ (decode cL_law 937 = .ok (.iconst 1, 1)) ∧ (decode cL_law 938 = .ok (.iadd, 1)) ∧ (decode cL_law 939 = .ok (.iaload, 1)) := by decide +kernel
theorem dL_law_930 : decode cL_law 930 = .ok (.invokevirtual 99, 3) := dL_law_930_b.1
theorem dL_law_933 : decode cL_law 933 = .ok (.pop, 1) := dL_law_930_b.2.1
theorem dL_law_934 : decode cL_law 934 = .ok (.aload_n 2, 1) := dL_law_930_b.2.2.1
theorem dL_law_935 : decode cL_law 935 = .ok (.aload_n 0, 1) := dL_law_930_b.2.2.2.1
theorem dL_law_936 : decode cL_law 936 = .ok (.iload_n 3, 1) := dL_law_930_b.2.2.2.2.1
theorem dL_law_937 : decode cL_law 937 = .ok (.iconst 1, 1) := dL_law_930_b.2.2.2.2.2.1
theorem dL_law_938 : decode cL_law 938 = .ok (.iadd, 1) := dL_law_930_b.2.2.2.2.2.2.1
theorem dL_law_939 : decode cL_law 939 = .ok (.iaload, 1) := dL_law_930_b.2.2.2.2.2.2.2
theorem dL_law_940_b : (decode cL_law 940 = .ok (.aload_n 0, 1)) ∧ (decode cL_law 941 = .ok (.iload_n 3, 1)) ∧ (decode cL_law 942 = .ok (.iconst 2, 1)) ∧ (decode cL_law 943 = .ok (.iadd, 1)) ∧ (decode cL_law 944 = .ok (.iaload, 1)) ∧ (decode cL_law 945 = .ok (.invokevirtual 102, 3)) ∧ (decode cL_law 948 = .ok (.pop, 1)) ∧ (decode cL_law 949 = .ok (.goto 474, 3)) := by decide +kernel
theorem dL_law_940 : decode cL_law 940 = .ok (.aload_n 0, 1) := dL_law_940_b.1
theorem dL_law_941 : decode cL_law 941 = .ok (.iload_n 3, 1) := dL_law_940_b.2.1
theorem dL_law_942 : decode cL_law 942 = .ok (.iconst 2, 1) := dL_law_940_b.2.2.1
theorem dL_law_943 : decode cL_law 943 = .ok (.iadd, 1) := dL_law_940_b.2.2.2.1
theorem dL_law_944 : decode cL_law 944 = .ok (.iaload, 1) := dL_law_940_b.2.2.2.2.1
theorem dL_law_945 : decode cL_law 945 = .ok (.invokevirtual 102, 3) := dL_law_940_b.2.2.2.2.2.1
theorem dL_law_948 : decode cL_law 948 = .ok (.pop, 1) := dL_law_940_b.2.2.2.2.2.2.1
theorem dL_law_949 : decode cL_law 949 = .ok (.goto 474, 3) := dL_law_940_b.2.2.2.2.2.2.2
theorem dL_law_952_b : (decode cL_law 952 = .ok (.aload_n 1, 1)) ∧ (decode cL_law 953 = .ok (.invokevirtual 103, 3)) ∧ (decode cL_law 956 = .ok (.pop, 1)) ∧ (decode cL_law 957 = .ok (.aload_n 2, 1)) ∧ (decode cL_law 958 = .ok (.invokevirtual 106, 3)) ∧ (decode cL_law 961 = .ok (.pop, 1)) ∧ (decode cL_law 962 = .ok (.goto 461, 3)) ∧ (decode cL_law 965 = .ok (.aload_n 1, 1)) := by decide +kernel
theorem dL_law_952 : decode cL_law 952 = .ok (.aload_n 1, 1) := dL_law_952_b.1
theorem dL_law_953 : decode cL_law 953 = .ok (.invokevirtual 103, 3) := dL_law_952_b.2.1
theorem dL_law_956 : decode cL_law 956 = .ok (.pop, 1) := dL_law_952_b.2.2.1
theorem dL_law_957 : decode cL_law 957 = .ok (.aload_n 2, 1) := dL_law_952_b.2.2.2.1
theorem dL_law_958 : decode cL_law 958 = .ok (.invokevirtual 106, 3) := dL_law_952_b.2.2.2.2.1
theorem dL_law_961 : decode cL_law 961 = .ok (.pop, 1) := dL_law_952_b.2.2.2.2.2.1
theorem dL_law_962 : decode cL_law 962 = .ok (.goto 461, 3) := dL_law_952_b.2.2.2.2.2.2.1
theorem dL_law_965 : decode cL_law 965 = .ok (.aload_n 1, 1) := dL_law_952_b.2.2.2.2.2.2.2
theorem dL_law_966_b : (decode cL_law 966 = .ok (.aload_n 0, 1)) ∧ (decode cL_law 967 = .ok (.iload_n 3, 1)) ∧ (decode cL_law 968 = .ok (.iconst 1, 1)) ∧ (decode cL_law 969 = .ok (.iadd, 1)) ∧ (decode cL_law 970 = .ok (.iaload, 1)) ∧ (decode cL_law 971 = .ok (.invokevirtual 107, 3)) ∧ (decode cL_law 974 = .ok (.pop, 1)) ∧ (decode cL_law 975 = .ok (.aload_n 2, 1)) := by decide +kernel
theorem dL_law_966 : decode cL_law 966 = .ok (.aload_n 0, 1) := dL_law_966_b.1
theorem dL_law_967 : decode cL_law 967 = .ok (.iload_n 3, 1) := dL_law_966_b.2.1
theorem dL_law_968 : decode cL_law 968 = .ok (.iconst 1, 1) := dL_law_966_b.2.2.1
theorem dL_law_969 : decode cL_law 969 = .ok (.iadd, 1) := dL_law_966_b.2.2.2.1
theorem dL_law_970 : decode cL_law 970 = .ok (.iaload, 1) := dL_law_966_b.2.2.2.2.1
theorem dL_law_971 : decode cL_law 971 = .ok (.invokevirtual 107, 3) := dL_law_966_b.2.2.2.2.2.1
theorem dL_law_974 : decode cL_law 974 = .ok (.pop, 1) := dL_law_966_b.2.2.2.2.2.2.1
theorem dL_law_975 : decode cL_law 975 = .ok (.aload_n 2, 1) := dL_law_966_b.2.2.2.2.2.2.2
theorem dL_law_976_b : (decode cL_law 976 = .ok (.aload_n 0, 1)) ∧ (decode cL_law 977 = .ok (.iload_n 3, 1)) ∧ (decode cL_law 978 = .ok (.iconst 1, 1)) ∧ (decode cL_law 979 = .ok (.iadd, 1)) ∧ (decode cL_law 980 = .ok (.iaload, 1)) ∧ (decode cL_law 981 = .ok (.invokevirtual 110, 3)) ∧ (decode cL_law 984 = .ok (.pop, 1)) ∧ (decode cL_law 985 = .ok (.goto 438, 3)) := by decide +kernel
theorem dL_law_976 : decode cL_law 976 = .ok (.aload_n 0, 1) := dL_law_976_b.1
theorem dL_law_977 : decode cL_law 977 = .ok (.iload_n 3, 1) := dL_law_976_b.2.1
theorem dL_law_978 : decode cL_law 978 = .ok (.iconst 1, 1) := dL_law_976_b.2.2.1
theorem dL_law_979 : decode cL_law 979 = .ok (.iadd, 1) := dL_law_976_b.2.2.2.1
theorem dL_law_980 : decode cL_law 980 = .ok (.iaload, 1) := dL_law_976_b.2.2.2.2.1
theorem dL_law_981 : decode cL_law 981 = .ok (.invokevirtual 110, 3) := dL_law_976_b.2.2.2.2.2.1
theorem dL_law_984 : decode cL_law 984 = .ok (.pop, 1) := dL_law_976_b.2.2.2.2.2.2.1
theorem dL_law_985 : decode cL_law 985 = .ok (.goto 438, 3) := dL_law_976_b.2.2.2.2.2.2.2
theorem dL_law_988_b : (decode cL_law 988 = .ok (.aload_n 1, 1)) ∧ (decode cL_law 989 = .ok (.aload_n 0, 1)) ∧ (decode cL_law 990 = .ok (.iload_n 3, 1)) ∧ (decode cL_law 991 = .ok (.iconst 1, 1)) ∧ (decode cL_law 992 = .ok (.iadd, 1)) ∧ (decode cL_law 993 = .ok (.iaload, 1)) ∧ (decode cL_law 994 = .ok (.aload_n 0, 1)) ∧ (decode cL_law 995 = .ok (.iload_n 3, 1)) := by decide +kernel
theorem dL_law_988 : decode cL_law 988 = .ok (.aload_n 1, 1) := dL_law_988_b.1
theorem dL_law_989 : decode cL_law 989 = .ok (.aload_n 0, 1) := dL_law_988_b.2.1
theorem dL_law_990 : decode cL_law 990 = .ok (.iload_n 3, 1) := dL_law_988_b.2.2.1
theorem dL_law_991 : decode cL_law 991 = .ok (.iconst 1, 1) := dL_law_988_b.2.2.2.1
theorem dL_law_992 : decode cL_law 992 = .ok (.iadd, 1) := dL_law_988_b.2.2.2.2.1
theorem dL_law_993 : decode cL_law 993 = .ok (.iaload, 1) := dL_law_988_b.2.2.2.2.2.1
theorem dL_law_994 : decode cL_law 994 = .ok (.aload_n 0, 1) := dL_law_988_b.2.2.2.2.2.2.1
theorem dL_law_995 : decode cL_law 995 = .ok (.iload_n 3, 1) := dL_law_988_b.2.2.2.2.2.2.2
theorem dL_law_996_b : (decode cL_law 996 = .ok (.iconst 2, 1)) ∧ (decode cL_law 997 = .ok (.iadd, 1)) ∧ (decode cL_law 998 = .ok (.iaload, 1)) ∧ (decode cL_law 999 = .ok (.aload_n 0, 1)) ∧ (decode cL_law 1000 = .ok (.iload_n 3, 1)) ∧ (decode cL_law 1001 = .ok (.iconst 3, 1)) ∧ (decode cL_law 1002 = .ok (.iadd, 1)) ∧ (decode cL_law 1003 = .ok (.iaload, 1)) := by decide +kernel
theorem dL_law_996 : decode cL_law 996 = .ok (.iconst 2, 1) := dL_law_996_b.1
theorem dL_law_997 : decode cL_law 997 = .ok (.iadd, 1) := dL_law_996_b.2.1
theorem dL_law_998 : decode cL_law 998 = .ok (.iaload, 1) := dL_law_996_b.2.2.1
theorem dL_law_999 : decode cL_law 999 = .ok (.aload_n 0, 1) := dL_law_996_b.2.2.2.1
theorem dL_law_1000 : decode cL_law 1000 = .ok (.iload_n 3, 1) := dL_law_996_b.2.2.2.2.1
theorem dL_law_1001 : decode cL_law 1001 = .ok (.iconst 3, 1) := dL_law_996_b.2.2.2.2.2.1
theorem dL_law_1002 : decode cL_law 1002 = .ok (.iadd, 1) := dL_law_996_b.2.2.2.2.2.2.1
theorem dL_law_1003 : decode cL_law 1003 = .ok (.iaload, 1) := dL_law_996_b.2.2.2.2.2.2.2
theorem dL_law_1004_b : (decode cL_law 1004 = .ok (.aload_n 0, 1)) ∧ (decode cL_law 1005 = .ok (.iload_n 3, 1)) ∧ (decode cL_law 1006 = .ok (.iconst 4, 1)) ∧ (decode cL_law 1007 = .ok (.iadd, 1)) ∧ (decode cL_law 1008 = .ok (.iaload, 1)) ∧ (decode cL_law 1009 = .ok (.invokevirtual 111, 3)) ∧ (decode cL_law 1012 = .ok (.pop, 1)) ∧ (decode cL_law 1013 = .ok (.aload_n 2, 1)) := by decide +kernel
theorem dL_law_1004 : decode cL_law 1004 = .ok (.aload_n 0, 1) := dL_law_1004_b.1
theorem dL_law_1005 : decode cL_law 1005 = .ok (.iload_n 3, 1) := dL_law_1004_b.2.1
theorem dL_law_1006 : decode cL_law 1006 = .ok (.iconst 4, 1) := dL_law_1004_b.2.2.1
theorem dL_law_1007 : decode cL_law 1007 = .ok (.iadd, 1) := dL_law_1004_b.2.2.2.1
theorem dL_law_1008 : decode cL_law 1008 = .ok (.iaload, 1) := dL_law_1004_b.2.2.2.2.1
theorem dL_law_1009 : decode cL_law 1009 = .ok (.invokevirtual 111, 3) := dL_law_1004_b.2.2.2.2.2.1
theorem dL_law_1012 : decode cL_law 1012 = .ok (.pop, 1) := dL_law_1004_b.2.2.2.2.2.2.1
theorem dL_law_1013 : decode cL_law 1013 = .ok (.aload_n 2, 1) := dL_law_1004_b.2.2.2.2.2.2.2
theorem dL_law_1014_b : (decode cL_law 1014 = .ok (.aload_n 0, 1)) ∧ (decode cL_law 1015 = .ok (.iload_n 3, 1)) ∧ (decode cL_law 1016 = .ok (.iconst 1, 1)) ∧ (decode cL_law 1017 = .ok (.iadd, 1)) ∧ (decode cL_law 1018 = .ok (.iaload, 1)) ∧ (decode cL_law 1019 = .ok (.aload_n 0, 1)) ∧ (decode cL_law 1020 = .ok (.iload_n 3, 1)) ∧ (decode cL_law 1021 = .ok (.iconst 2, 1)) := by decide +kernel
theorem dL_law_1014 : decode cL_law 1014 = .ok (.aload_n 0, 1) := dL_law_1014_b.1
theorem dL_law_1015 : decode cL_law 1015 = .ok (.iload_n 3, 1) := dL_law_1014_b.2.1
theorem dL_law_1016 : decode cL_law 1016 = .ok (.iconst 1, 1) := dL_law_1014_b.2.2.1
theorem dL_law_1017 : decode cL_law 1017 = .ok (.iadd, 1) := dL_law_1014_b.2.2.2.1
theorem dL_law_1018 : decode cL_law 1018 = .ok (.iaload, 1) := dL_law_1014_b.2.2.2.2.1
theorem dL_law_1019 : decode cL_law 1019 = .ok (.aload_n 0, 1) := dL_law_1014_b.2.2.2.2.2.1
theorem dL_law_1020 : decode cL_law 1020 = .ok (.iload_n 3, 1) := dL_law_1014_b.2.2.2.2.2.2.1
theorem dL_law_1021 : decode cL_law 1021 = .ok (.iconst 2, 1) := dL_law_1014_b.2.2.2.2.2.2.2
theorem dL_law_1022_b : (decode cL_law 1022 = .ok (.iadd, 1)) ∧ (decode cL_law 1023 = .ok (.iaload, 1)) ∧ (decode cL_law 1024 = .ok (.aload_n 0, 1)) ∧ (decode cL_law 1025 = .ok (.iload_n 3, 1)) ∧ (decode cL_law 1026 = .ok (.iconst 3, 1)) ∧ (decode cL_law 1027 = .ok (.iadd, 1)) ∧ (decode cL_law 1028 = .ok (.iaload, 1)) ∧ (decode cL_law 1029 = .ok (.aload_n 0, 1)) := by decide +kernel
theorem dL_law_1022 : decode cL_law 1022 = .ok (.iadd, 1) := dL_law_1022_b.1
theorem dL_law_1023 : decode cL_law 1023 = .ok (.iaload, 1) := dL_law_1022_b.2.1
theorem dL_law_1024 : decode cL_law 1024 = .ok (.aload_n 0, 1) := dL_law_1022_b.2.2.1
theorem dL_law_1025 : decode cL_law 1025 = .ok (.iload_n 3, 1) := dL_law_1022_b.2.2.2.1
theorem dL_law_1026 : decode cL_law 1026 = .ok (.iconst 3, 1) := dL_law_1022_b.2.2.2.2.1
theorem dL_law_1027 : decode cL_law 1027 = .ok (.iadd, 1) := dL_law_1022_b.2.2.2.2.2.1
theorem dL_law_1028 : decode cL_law 1028 = .ok (.iaload, 1) := dL_law_1022_b.2.2.2.2.2.2.1
theorem dL_law_1029 : decode cL_law 1029 = .ok (.aload_n 0, 1) := dL_law_1022_b.2.2.2.2.2.2.2
theorem dL_law_1030_b : (decode cL_law 1030 = .ok (.iload_n 3, 1)) ∧ (decode cL_law 1031 = .ok (.iconst 4, 1)) ∧ (decode cL_law 1032 = .ok (.iadd, 1)) ∧ (decode cL_law 1033 = .ok (.iaload, 1)) ∧ (decode cL_law 1034 = .ok (.invokevirtual 114, 3)) ∧ (decode cL_law 1037 = .ok (.pop, 1)) ∧ (decode cL_law 1038 = .ok (.goto 385, 3)) ∧ (decode cL_law 1041 = .ok (.aload_n 1, 1)) := by decide +kernel
theorem dL_law_1030 : decode cL_law 1030 = .ok (.iload_n 3, 1) := dL_law_1030_b.1
theorem dL_law_1031 : decode cL_law 1031 = .ok (.iconst 4, 1) := dL_law_1030_b.2.1
theorem dL_law_1032 : decode cL_law 1032 = .ok (.iadd, 1) := dL_law_1030_b.2.2.1
theorem dL_law_1033 : decode cL_law 1033 = .ok (.iaload, 1) := dL_law_1030_b.2.2.2.1
theorem dL_law_1034 : decode cL_law 1034 = .ok (.invokevirtual 114, 3) := dL_law_1030_b.2.2.2.2.1
theorem dL_law_1037 : decode cL_law 1037 = .ok (.pop, 1) := dL_law_1030_b.2.2.2.2.2.1
theorem dL_law_1038 : decode cL_law 1038 = .ok (.goto 385, 3) := dL_law_1030_b.2.2.2.2.2.2.1
theorem dL_law_1041 : decode cL_law 1041 = .ok (.aload_n 1, 1) := dL_law_1030_b.2.2.2.2.2.2.2
theorem dL_law_1042_b : (decode cL_law 1042 = .ok (.aload_n 0, 1)) ∧ (decode cL_law 1043 = .ok (.iload_n 3, 1)) ∧ (decode cL_law 1044 = .ok (.iconst 1, 1)) ∧ (decode cL_law 1045 = .ok (.iadd, 1)) ∧ (decode cL_law 1046 = .ok (.iaload, 1)) ∧ (decode cL_law 1047 = .ok (.aload_n 0, 1)) ∧ (decode cL_law 1048 = .ok (.iload_n 3, 1)) ∧ (decode cL_law 1049 = .ok (.iconst 2, 1)) := by decide +kernel
theorem dL_law_1042 : decode cL_law 1042 = .ok (.aload_n 0, 1) := dL_law_1042_b.1
theorem dL_law_1043 : decode cL_law 1043 = .ok (.iload_n 3, 1) := dL_law_1042_b.2.1
theorem dL_law_1044 : decode cL_law 1044 = .ok (.iconst 1, 1) := dL_law_1042_b.2.2.1
theorem dL_law_1045 : decode cL_law 1045 = .ok (.iadd, 1) := dL_law_1042_b.2.2.2.1
theorem dL_law_1046 : decode cL_law 1046 = .ok (.iaload, 1) := dL_law_1042_b.2.2.2.2.1
theorem dL_law_1047 : decode cL_law 1047 = .ok (.aload_n 0, 1) := dL_law_1042_b.2.2.2.2.2.1
theorem dL_law_1048 : decode cL_law 1048 = .ok (.iload_n 3, 1) := dL_law_1042_b.2.2.2.2.2.2.1
theorem dL_law_1049 : decode cL_law 1049 = .ok (.iconst 2, 1) := dL_law_1042_b.2.2.2.2.2.2.2
theorem dL_law_1050_b : (decode cL_law 1050 = .ok (.iadd, 1)) ∧ (decode cL_law 1051 = .ok (.iaload, 1)) ∧ (decode cL_law 1052 = .ok (.aload_n 0, 1)) ∧ (decode cL_law 1053 = .ok (.iload_n 3, 1)) ∧ (decode cL_law 1054 = .ok (.iconst 3, 1)) ∧ (decode cL_law 1055 = .ok (.iadd, 1)) ∧ (decode cL_law 1056 = .ok (.iaload, 1)) ∧ (decode cL_law 1057 = .ok (.invokevirtual 115, 3)) := by decide +kernel
theorem dL_law_1050 : decode cL_law 1050 = .ok (.iadd, 1) := dL_law_1050_b.1
theorem dL_law_1051 : decode cL_law 1051 = .ok (.iaload, 1) := dL_law_1050_b.2.1
theorem dL_law_1052 : decode cL_law 1052 = .ok (.aload_n 0, 1) := dL_law_1050_b.2.2.1
theorem dL_law_1053 : decode cL_law 1053 = .ok (.iload_n 3, 1) := dL_law_1050_b.2.2.2.1
theorem dL_law_1054 : decode cL_law 1054 = .ok (.iconst 3, 1) := dL_law_1050_b.2.2.2.2.1
theorem dL_law_1055 : decode cL_law 1055 = .ok (.iadd, 1) := dL_law_1050_b.2.2.2.2.2.1
theorem dL_law_1056 : decode cL_law 1056 = .ok (.iaload, 1) := dL_law_1050_b.2.2.2.2.2.2.1
theorem dL_law_1057 : decode cL_law 1057 = .ok (.invokevirtual 115, 3) := dL_law_1050_b.2.2.2.2.2.2.2
theorem dL_law_1060_b : (decode cL_law 1060 = .ok (.pop, 1)) ∧ (decode cL_law 1061 = .ok (.aload_n 2, 1)) ∧ (decode cL_law 1062 = .ok (.aload_n 0, 1)) ∧ (decode cL_law 1063 = .ok (.iload_n 3, 1)) ∧ (decode cL_law 1064 = .ok (.iconst 1, 1)) ∧ (decode cL_law 1065 = .ok (.iadd, 1)) ∧ (decode cL_law 1066 = .ok (.iaload, 1)) ∧ (decode cL_law 1067 = .ok (.aload_n 0, 1)) := by decide +kernel
theorem dL_law_1060 : decode cL_law 1060 = .ok (.pop, 1) := dL_law_1060_b.1
theorem dL_law_1061 : decode cL_law 1061 = .ok (.aload_n 2, 1) := dL_law_1060_b.2.1
theorem dL_law_1062 : decode cL_law 1062 = .ok (.aload_n 0, 1) := dL_law_1060_b.2.2.1
theorem dL_law_1063 : decode cL_law 1063 = .ok (.iload_n 3, 1) := dL_law_1060_b.2.2.2.1
theorem dL_law_1064 : decode cL_law 1064 = .ok (.iconst 1, 1) := dL_law_1060_b.2.2.2.2.1
theorem dL_law_1065 : decode cL_law 1065 = .ok (.iadd, 1) := dL_law_1060_b.2.2.2.2.2.1
theorem dL_law_1066 : decode cL_law 1066 = .ok (.iaload, 1) := dL_law_1060_b.2.2.2.2.2.2.1
theorem dL_law_1067 : decode cL_law 1067 = .ok (.aload_n 0, 1) := dL_law_1060_b.2.2.2.2.2.2.2
theorem dL_law_1068_b : (decode cL_law 1068 = .ok (.iload_n 3, 1)) ∧ (decode cL_law 1069 = .ok (.iconst 2, 1)) ∧ (decode cL_law 1070 = .ok (.iadd, 1)) ∧ (decode cL_law 1071 = .ok (.iaload, 1)) ∧ (decode cL_law 1072 = .ok (.aload_n 0, 1)) ∧ (decode cL_law 1073 = .ok (.iload_n 3, 1)) ∧ (decode cL_law 1074 = .ok (.iconst 3, 1)) ∧ (decode cL_law 1075 = .ok (.iadd, 1)) := by decide +kernel
theorem dL_law_1068 : decode cL_law 1068 = .ok (.iload_n 3, 1) := dL_law_1068_b.1
theorem dL_law_1069 : decode cL_law 1069 = .ok (.iconst 2, 1) := dL_law_1068_b.2.1
theorem dL_law_1070 : decode cL_law 1070 = .ok (.iadd, 1) := dL_law_1068_b.2.2.1
theorem dL_law_1071 : decode cL_law 1071 = .ok (.iaload, 1) := dL_law_1068_b.2.2.2.1
theorem dL_law_1072 : decode cL_law 1072 = .ok (.aload_n 0, 1) := dL_law_1068_b.2.2.2.2.1
theorem dL_law_1073 : decode cL_law 1073 = .ok (.iload_n 3, 1) := dL_law_1068_b.2.2.2.2.2.1
theorem dL_law_1074 : decode cL_law 1074 = .ok (.iconst 3, 1) := dL_law_1068_b.2.2.2.2.2.2.1
theorem dL_law_1075 : decode cL_law 1075 = .ok (.iadd, 1) := dL_law_1068_b.2.2.2.2.2.2.2
theorem dL_law_1076_b : (decode cL_law 1076 = .ok (.iaload, 1)) ∧ (decode cL_law 1077 = .ok (.invokevirtual 118, 3)) ∧ (decode cL_law 1080 = .ok (.pop, 1)) ∧ (decode cL_law 1081 = .ok (.goto 342, 3)) ∧ (decode cL_law 1084 = .ok (.aload_n 1, 1)) ∧ (decode cL_law 1085 = .ok (.aload_n 0, 1)) ∧ (decode cL_law 1086 = .ok (.iload_n 3, 1)) ∧ (decode cL_law 1087 = .ok (.iconst 1, 1)) := by decide +kernel
theorem dL_law_1076 : decode cL_law 1076 = .ok (.iaload, 1) := dL_law_1076_b.1
theorem dL_law_1077 : decode cL_law 1077 = .ok (.invokevirtual 118, 3) := dL_law_1076_b.2.1
theorem dL_law_1080 : decode cL_law 1080 = .ok (.pop, 1) := dL_law_1076_b.2.2.1
theorem dL_law_1081 : decode cL_law 1081 = .ok (.goto 342, 3) := dL_law_1076_b.2.2.2.1
theorem dL_law_1084 : decode cL_law 1084 = .ok (.aload_n 1, 1) := dL_law_1076_b.2.2.2.2.1
theorem dL_law_1085 : decode cL_law 1085 = .ok (.aload_n 0, 1) := dL_law_1076_b.2.2.2.2.2.1
theorem dL_law_1086 : decode cL_law 1086 = .ok (.iload_n 3, 1) := dL_law_1076_b.2.2.2.2.2.2.1
theorem dL_law_1087 : decode cL_law 1087 = .ok (.iconst 1, 1) := dL_law_1076_b.2.2.2.2.2.2.2
theorem dL_law_1088_b : (decode cL_law 1088 = .ok (.iadd, 1)) ∧ (decode cL_law 1089 = .ok (.iaload, 1)) ∧ (decode cL_law 1090 = .ok (.invokevirtual 119, 3)) ∧ (decode cL_law 1093 = .ok (.pop, 1)) ∧ (decode cL_law 1094 = .ok (.aload_n 2, 1)) ∧ (decode cL_law 1095 = .ok (.aload_n 0, 1)) ∧ (decode cL_law 1096 = .ok (.iload_n 3, 1)) ∧ (decode cL_law 1097 = .ok (.iconst 1, 1)) := by decide +kernel
theorem dL_law_1088 : decode cL_law 1088 = .ok (.iadd, 1) := dL_law_1088_b.1
theorem dL_law_1089 : decode cL_law 1089 = .ok (.iaload, 1) := dL_law_1088_b.2.1
theorem dL_law_1090 : decode cL_law 1090 = .ok (.invokevirtual 119, 3) := dL_law_1088_b.2.2.1
theorem dL_law_1093 : decode cL_law 1093 = .ok (.pop, 1) := dL_law_1088_b.2.2.2.1
theorem dL_law_1094 : decode cL_law 1094 = .ok (.aload_n 2, 1) := dL_law_1088_b.2.2.2.2.1
theorem dL_law_1095 : decode cL_law 1095 = .ok (.aload_n 0, 1) := dL_law_1088_b.2.2.2.2.2.1
theorem dL_law_1096 : decode cL_law 1096 = .ok (.iload_n 3, 1) := dL_law_1088_b.2.2.2.2.2.2.1
theorem dL_law_1097 : decode cL_law 1097 = .ok (.iconst 1, 1) := dL_law_1088_b.2.2.2.2.2.2.2
theorem dL_law_1098_b : (decode cL_law 1098 = .ok (.iadd, 1)) ∧ (decode cL_law 1099 = .ok (.iaload, 1)) ∧ (decode cL_law 1100 = .ok (.invokevirtual 122, 3)) ∧ (decode cL_law 1103 = .ok (.pop, 1)) ∧ (decode cL_law 1104 = .ok (.goto 319, 3)) ∧ (decode cL_law 1107 = .ok (.aload_n 1, 1)) ∧ (decode cL_law 1108 = .ok (.invokevirtual 123, 3)) ∧ (decode cL_law 1111 = .ok (.pop, 1)) := by decide +kernel
theorem dL_law_1098 : decode cL_law 1098 = .ok (.iadd, 1) := dL_law_1098_b.1
theorem dL_law_1099 : decode cL_law 1099 = .ok (.iaload, 1) := dL_law_1098_b.2.1
theorem dL_law_1100 : decode cL_law 1100 = .ok (.invokevirtual 122, 3) := dL_law_1098_b.2.2.1
theorem dL_law_1103 : decode cL_law 1103 = .ok (.pop, 1) := dL_law_1098_b.2.2.2.1
theorem dL_law_1104 : decode cL_law 1104 = .ok (.goto 319, 3) := dL_law_1098_b.2.2.2.2.1
theorem dL_law_1107 : decode cL_law 1107 = .ok (.aload_n 1, 1) := dL_law_1098_b.2.2.2.2.2.1
theorem dL_law_1108 : decode cL_law 1108 = .ok (.invokevirtual 123, 3) := dL_law_1098_b.2.2.2.2.2.2.1
theorem dL_law_1111 : decode cL_law 1111 = .ok (.pop, 1) := dL_law_1098_b.2.2.2.2.2.2.2
theorem dL_law_1112_b : (decode cL_law 1112 = .ok (.aload_n 2, 1)) ∧ (decode cL_law 1113 = .ok (.invokevirtual 126, 3)) ∧ (decode cL_law 1116 = .ok (.pop, 1)) ∧ (decode cL_law 1117 = .ok (.goto 306, 3)) ∧ (decode cL_law 1120 = .ok (.aload_n 1, 1)) ∧ (decode cL_law 1121 = .ok (.aload_n 0, 1)) ∧ (decode cL_law 1122 = .ok (.iload_n 3, 1)) ∧ (decode cL_law 1123 = .ok (.iconst 1, 1)) := by decide +kernel
theorem dL_law_1112 : decode cL_law 1112 = .ok (.aload_n 2, 1) := dL_law_1112_b.1
theorem dL_law_1113 : decode cL_law 1113 = .ok (.invokevirtual 126, 3) := dL_law_1112_b.2.1
theorem dL_law_1116 : decode cL_law 1116 = .ok (.pop, 1) := dL_law_1112_b.2.2.1
theorem dL_law_1117 : decode cL_law 1117 = .ok (.goto 306, 3) := dL_law_1112_b.2.2.2.1
theorem dL_law_1120 : decode cL_law 1120 = .ok (.aload_n 1, 1) := dL_law_1112_b.2.2.2.2.1
theorem dL_law_1121 : decode cL_law 1121 = .ok (.aload_n 0, 1) := dL_law_1112_b.2.2.2.2.2.1
theorem dL_law_1122 : decode cL_law 1122 = .ok (.iload_n 3, 1) := dL_law_1112_b.2.2.2.2.2.2.1
theorem dL_law_1123 : decode cL_law 1123 = .ok (.iconst 1, 1) := dL_law_1112_b.2.2.2.2.2.2.2
theorem dL_law_1124_b : (decode cL_law 1124 = .ok (.iadd, 1)) ∧ (decode cL_law 1125 = .ok (.iaload, 1)) ∧ (decode cL_law 1126 = .ok (.invokevirtual 127, 3)) ∧ (decode cL_law 1129 = .ok (.pop, 1)) ∧ (decode cL_law 1130 = .ok (.aload_n 2, 1)) ∧ (decode cL_law 1131 = .ok (.aload_n 0, 1)) ∧ (decode cL_law 1132 = .ok (.iload_n 3, 1)) ∧ (decode cL_law 1133 = .ok (.iconst 1, 1)) := by decide +kernel
theorem dL_law_1124 : decode cL_law 1124 = .ok (.iadd, 1) := dL_law_1124_b.1
theorem dL_law_1125 : decode cL_law 1125 = .ok (.iaload, 1) := dL_law_1124_b.2.1
theorem dL_law_1126 : decode cL_law 1126 = .ok (.invokevirtual 127, 3) := dL_law_1124_b.2.2.1
theorem dL_law_1129 : decode cL_law 1129 = .ok (.pop, 1) := dL_law_1124_b.2.2.2.1
theorem dL_law_1130 : decode cL_law 1130 = .ok (.aload_n 2, 1) := dL_law_1124_b.2.2.2.2.1
theorem dL_law_1131 : decode cL_law 1131 = .ok (.aload_n 0, 1) := dL_law_1124_b.2.2.2.2.2.1
theorem dL_law_1132 : decode cL_law 1132 = .ok (.iload_n 3, 1) := dL_law_1124_b.2.2.2.2.2.2.1
theorem dL_law_1133 : decode cL_law 1133 = .ok (.iconst 1, 1) := dL_law_1124_b.2.2.2.2.2.2.2
theorem dL_law_1134_b : (decode cL_law 1134 = .ok (.iadd, 1)) ∧ (decode cL_law 1135 = .ok (.iaload, 1)) ∧ (decode cL_law 1136 = .ok (.invokevirtual 130, 3)) ∧ (decode cL_law 1139 = .ok (.pop, 1)) ∧ (decode cL_law 1140 = .ok (.goto 283, 3)) ∧ (decode cL_law 1143 = .ok (.aload_n 1, 1)) ∧ (decode cL_law 1144 = .ok (.aload_n 0, 1)) ∧ (decode cL_law 1145 = .ok (.iload_n 3, 1)) := by decide +kernel
theorem dL_law_1134 : decode cL_law 1134 = .ok (.iadd, 1) := dL_law_1134_b.1
theorem dL_law_1135 : decode cL_law 1135 = .ok (.iaload, 1) := dL_law_1134_b.2.1
theorem dL_law_1136 : decode cL_law 1136 = .ok (.invokevirtual 130, 3) := dL_law_1134_b.2.2.1
theorem dL_law_1139 : decode cL_law 1139 = .ok (.pop, 1) := dL_law_1134_b.2.2.2.1
theorem dL_law_1140 : decode cL_law 1140 = .ok (.goto 283, 3) := dL_law_1134_b.2.2.2.2.1
theorem dL_law_1143 : decode cL_law 1143 = .ok (.aload_n 1, 1) := dL_law_1134_b.2.2.2.2.2.1
theorem dL_law_1144 : decode cL_law 1144 = .ok (.aload_n 0, 1) := dL_law_1134_b.2.2.2.2.2.2.1
theorem dL_law_1145 : decode cL_law 1145 = .ok (.iload_n 3, 1) := dL_law_1134_b.2.2.2.2.2.2.2
theorem dL_law_1146_b : (decode cL_law 1146 = .ok (.iconst 1, 1)) ∧ (decode cL_law 1147 = .ok (.iadd, 1)) ∧ (decode cL_law 1148 = .ok (.iaload, 1)) ∧ (decode cL_law 1149 = .ok (.aload_n 0, 1)) ∧ (decode cL_law 1150 = .ok (.iload_n 3, 1)) ∧ (decode cL_law 1151 = .ok (.iconst 2, 1)) ∧ (decode cL_law 1152 = .ok (.iadd, 1)) ∧ (decode cL_law 1153 = .ok (.iaload, 1)) := by decide +kernel
theorem dL_law_1146 : decode cL_law 1146 = .ok (.iconst 1, 1) := dL_law_1146_b.1
theorem dL_law_1147 : decode cL_law 1147 = .ok (.iadd, 1) := dL_law_1146_b.2.1
theorem dL_law_1148 : decode cL_law 1148 = .ok (.iaload, 1) := dL_law_1146_b.2.2.1
theorem dL_law_1149 : decode cL_law 1149 = .ok (.aload_n 0, 1) := dL_law_1146_b.2.2.2.1
theorem dL_law_1150 : decode cL_law 1150 = .ok (.iload_n 3, 1) := dL_law_1146_b.2.2.2.2.1
theorem dL_law_1151 : decode cL_law 1151 = .ok (.iconst 2, 1) := dL_law_1146_b.2.2.2.2.2.1
theorem dL_law_1152 : decode cL_law 1152 = .ok (.iadd, 1) := dL_law_1146_b.2.2.2.2.2.2.1
theorem dL_law_1153 : decode cL_law 1153 = .ok (.iaload, 1) := dL_law_1146_b.2.2.2.2.2.2.2
theorem dL_law_1154_b : (decode cL_law 1154 = .ok (.ifCond .eq 7, 3)) ∧ (decode cL_law 1157 = .ok (.iconst 1, 1)) ∧ (decode cL_law 1158 = .ok (.goto 4, 3)) ∧ (decode cL_law 1161 = .ok (.iconst 0, 1)) ∧ (decode cL_law 1162 = .ok (.aload_n 0, 1)) ∧ (decode cL_law 1163 = .ok (.iload_n 3, 1)) ∧ (decode cL_law 1164 = .ok (.iconst 3, 1)) ∧ (decode cL_law 1165 = .ok (.iadd, 1)) := by decide +kernel
theorem dL_law_1154 : decode cL_law 1154 = .ok (.ifCond .eq 7, 3) := dL_law_1154_b.1
theorem dL_law_1157 : decode cL_law 1157 = .ok (.iconst 1, 1) := dL_law_1154_b.2.1
theorem dL_law_1158 : decode cL_law 1158 = .ok (.goto 4, 3) := dL_law_1154_b.2.2.1
theorem dL_law_1161 : decode cL_law 1161 = .ok (.iconst 0, 1) := dL_law_1154_b.2.2.2.1
theorem dL_law_1162 : decode cL_law 1162 = .ok (.aload_n 0, 1) := dL_law_1154_b.2.2.2.2.1
theorem dL_law_1163 : decode cL_law 1163 = .ok (.iload_n 3, 1) := dL_law_1154_b.2.2.2.2.2.1
theorem dL_law_1164 : decode cL_law 1164 = .ok (.iconst 3, 1) := dL_law_1154_b.2.2.2.2.2.2.1
theorem dL_law_1165 : decode cL_law 1165 = .ok (.iadd, 1) := dL_law_1154_b.2.2.2.2.2.2.2
theorem dL_law_1166_b : (decode cL_law 1166 = .ok (.iaload, 1)) ∧ (decode cL_law 1167 = .ok (.invokevirtual 131, 3)) ∧ (decode cL_law 1170 = .ok (.pop, 1)) ∧ (decode cL_law 1171 = .ok (.aload_n 2, 1)) ∧ (decode cL_law 1172 = .ok (.aload_n 0, 1)) ∧ (decode cL_law 1173 = .ok (.iload_n 3, 1)) ∧ (decode cL_law 1174 = .ok (.iconst 1, 1)) ∧ (decode cL_law 1175 = .ok (.iadd, 1)) := by decide +kernel
theorem dL_law_1166 : decode cL_law 1166 = .ok (.iaload, 1) := dL_law_1166_b.1
theorem dL_law_1167 : decode cL_law 1167 = .ok (.invokevirtual 131, 3) := dL_law_1166_b.2.1
theorem dL_law_1170 : decode cL_law 1170 = .ok (.pop, 1) := dL_law_1166_b.2.2.1
theorem dL_law_1171 : decode cL_law 1171 = .ok (.aload_n 2, 1) := dL_law_1166_b.2.2.2.1
theorem dL_law_1172 : decode cL_law 1172 = .ok (.aload_n 0, 1) := dL_law_1166_b.2.2.2.2.1
theorem dL_law_1173 : decode cL_law 1173 = .ok (.iload_n 3, 1) := dL_law_1166_b.2.2.2.2.2.1
theorem dL_law_1174 : decode cL_law 1174 = .ok (.iconst 1, 1) := dL_law_1166_b.2.2.2.2.2.2.1
theorem dL_law_1175 : decode cL_law 1175 = .ok (.iadd, 1) := dL_law_1166_b.2.2.2.2.2.2.2
theorem dL_law_1176_b : (decode cL_law 1176 = .ok (.iaload, 1)) ∧ (decode cL_law 1177 = .ok (.aload_n 0, 1)) ∧ (decode cL_law 1178 = .ok (.iload_n 3, 1)) ∧ (decode cL_law 1179 = .ok (.iconst 2, 1)) ∧ (decode cL_law 1180 = .ok (.iadd, 1)) ∧ (decode cL_law 1181 = .ok (.iaload, 1)) ∧ (decode cL_law 1182 = .ok (.ifCond .eq 7, 3)) ∧ (decode cL_law 1185 = .ok (.iconst 1, 1)) := by decide +kernel
theorem dL_law_1176 : decode cL_law 1176 = .ok (.iaload, 1) := dL_law_1176_b.1
theorem dL_law_1177 : decode cL_law 1177 = .ok (.aload_n 0, 1) := dL_law_1176_b.2.1
theorem dL_law_1178 : decode cL_law 1178 = .ok (.iload_n 3, 1) := dL_law_1176_b.2.2.1
theorem dL_law_1179 : decode cL_law 1179 = .ok (.iconst 2, 1) := dL_law_1176_b.2.2.2.1
theorem dL_law_1180 : decode cL_law 1180 = .ok (.iadd, 1) := dL_law_1176_b.2.2.2.2.1
theorem dL_law_1181 : decode cL_law 1181 = .ok (.iaload, 1) := dL_law_1176_b.2.2.2.2.2.1
theorem dL_law_1182 : decode cL_law 1182 = .ok (.ifCond .eq 7, 3) := dL_law_1176_b.2.2.2.2.2.2.1
theorem dL_law_1185 : decode cL_law 1185 = .ok (.iconst 1, 1) := dL_law_1176_b.2.2.2.2.2.2.2
theorem dL_law_1186_b : (decode cL_law 1186 = .ok (.goto 4, 3)) ∧ (decode cL_law 1189 = .ok (.iconst 0, 1)) ∧ (decode cL_law 1190 = .ok (.aload_n 0, 1)) ∧ (decode cL_law 1191 = .ok (.iload_n 3, 1)) ∧ (decode cL_law 1192 = .ok (.iconst 3, 1)) ∧ (decode cL_law 1193 = .ok (.iadd, 1)) ∧ (decode cL_law 1194 = .ok (.iaload, 1)) ∧ (decode cL_law 1195 = .ok (.invokevirtual 135, 3)) := by decide +kernel
theorem dL_law_1186 : decode cL_law 1186 = .ok (.goto 4, 3) := dL_law_1186_b.1
theorem dL_law_1189 : decode cL_law 1189 = .ok (.iconst 0, 1) := dL_law_1186_b.2.1
theorem dL_law_1190 : decode cL_law 1190 = .ok (.aload_n 0, 1) := dL_law_1186_b.2.2.1
theorem dL_law_1191 : decode cL_law 1191 = .ok (.iload_n 3, 1) := dL_law_1186_b.2.2.2.1
theorem dL_law_1192 : decode cL_law 1192 = .ok (.iconst 3, 1) := dL_law_1186_b.2.2.2.2.1
theorem dL_law_1193 : decode cL_law 1193 = .ok (.iadd, 1) := dL_law_1186_b.2.2.2.2.2.1
theorem dL_law_1194 : decode cL_law 1194 = .ok (.iaload, 1) := dL_law_1186_b.2.2.2.2.2.2.1
theorem dL_law_1195 : decode cL_law 1195 = .ok (.invokevirtual 135, 3) := dL_law_1186_b.2.2.2.2.2.2.2
theorem dL_law_1198_b : (decode cL_law 1198 = .ok (.pop, 1)) ∧ (decode cL_law 1199 = .ok (.goto 224, 3)) ∧ (decode cL_law 1202 = .ok (.aload_n 1, 1)) ∧ (decode cL_law 1203 = .ok (.aload_n 0, 1)) ∧ (decode cL_law 1204 = .ok (.iload_n 3, 1)) ∧ (decode cL_law 1205 = .ok (.iconst 1, 1)) ∧ (decode cL_law 1206 = .ok (.iadd, 1)) ∧ (decode cL_law 1207 = .ok (.iaload, 1)) := by decide +kernel
theorem dL_law_1198 : decode cL_law 1198 = .ok (.pop, 1) := dL_law_1198_b.1
theorem dL_law_1199 : decode cL_law 1199 = .ok (.goto 224, 3) := dL_law_1198_b.2.1
theorem dL_law_1202 : decode cL_law 1202 = .ok (.aload_n 1, 1) := dL_law_1198_b.2.2.1
theorem dL_law_1203 : decode cL_law 1203 = .ok (.aload_n 0, 1) := dL_law_1198_b.2.2.2.1
theorem dL_law_1204 : decode cL_law 1204 = .ok (.iload_n 3, 1) := dL_law_1198_b.2.2.2.2.1
theorem dL_law_1205 : decode cL_law 1205 = .ok (.iconst 1, 1) := dL_law_1198_b.2.2.2.2.2.1
theorem dL_law_1206 : decode cL_law 1206 = .ok (.iadd, 1) := dL_law_1198_b.2.2.2.2.2.2.1
theorem dL_law_1207 : decode cL_law 1207 = .ok (.iaload, 1) := dL_law_1198_b.2.2.2.2.2.2.2
theorem dL_law_1208_b : (decode cL_law 1208 = .ok (.aload_n 0, 1)) ∧ (decode cL_law 1209 = .ok (.iload_n 3, 1)) ∧ (decode cL_law 1210 = .ok (.iconst 2, 1)) ∧ (decode cL_law 1211 = .ok (.iadd, 1)) ∧ (decode cL_law 1212 = .ok (.iaload, 1)) ∧ (decode cL_law 1213 = .ok (.aload_n 0, 1)) ∧ (decode cL_law 1214 = .ok (.iload_n 3, 1)) ∧ (decode cL_law 1215 = .ok (.iconst 3, 1)) := by decide +kernel
theorem dL_law_1208 : decode cL_law 1208 = .ok (.aload_n 0, 1) := dL_law_1208_b.1
theorem dL_law_1209 : decode cL_law 1209 = .ok (.iload_n 3, 1) := dL_law_1208_b.2.1
theorem dL_law_1210 : decode cL_law 1210 = .ok (.iconst 2, 1) := dL_law_1208_b.2.2.1
theorem dL_law_1211 : decode cL_law 1211 = .ok (.iadd, 1) := dL_law_1208_b.2.2.2.1
theorem dL_law_1212 : decode cL_law 1212 = .ok (.iaload, 1) := dL_law_1208_b.2.2.2.2.1
theorem dL_law_1213 : decode cL_law 1213 = .ok (.aload_n 0, 1) := dL_law_1208_b.2.2.2.2.2.1
theorem dL_law_1214 : decode cL_law 1214 = .ok (.iload_n 3, 1) := dL_law_1208_b.2.2.2.2.2.2.1
theorem dL_law_1215 : decode cL_law 1215 = .ok (.iconst 3, 1) := dL_law_1208_b.2.2.2.2.2.2.2
theorem dL_law_1216_b : (decode cL_law 1216 = .ok (.iadd, 1)) ∧ (decode cL_law 1217 = .ok (.iaload, 1)) ∧ (decode cL_law 1218 = .ok (.invokevirtual 136, 3)) ∧ (decode cL_law 1221 = .ok (.pop, 1)) ∧ (decode cL_law 1222 = .ok (.aload_n 2, 1)) ∧ (decode cL_law 1223 = .ok (.aload_n 0, 1)) ∧ (decode cL_law 1224 = .ok (.iload_n 3, 1)) ∧ (decode cL_law 1225 = .ok (.iconst 1, 1)) := by decide +kernel
theorem dL_law_1216 : decode cL_law 1216 = .ok (.iadd, 1) := dL_law_1216_b.1
theorem dL_law_1217 : decode cL_law 1217 = .ok (.iaload, 1) := dL_law_1216_b.2.1
theorem dL_law_1218 : decode cL_law 1218 = .ok (.invokevirtual 136, 3) := dL_law_1216_b.2.2.1
theorem dL_law_1221 : decode cL_law 1221 = .ok (.pop, 1) := dL_law_1216_b.2.2.2.1
theorem dL_law_1222 : decode cL_law 1222 = .ok (.aload_n 2, 1) := dL_law_1216_b.2.2.2.2.1
theorem dL_law_1223 : decode cL_law 1223 = .ok (.aload_n 0, 1) := dL_law_1216_b.2.2.2.2.2.1
theorem dL_law_1224 : decode cL_law 1224 = .ok (.iload_n 3, 1) := dL_law_1216_b.2.2.2.2.2.2.1
theorem dL_law_1225 : decode cL_law 1225 = .ok (.iconst 1, 1) := dL_law_1216_b.2.2.2.2.2.2.2
theorem dL_law_1226_b : (decode cL_law 1226 = .ok (.iadd, 1)) ∧ (decode cL_law 1227 = .ok (.iaload, 1)) ∧ (decode cL_law 1228 = .ok (.aload_n 0, 1)) ∧ (decode cL_law 1229 = .ok (.iload_n 3, 1)) ∧ (decode cL_law 1230 = .ok (.iconst 2, 1)) ∧ (decode cL_law 1231 = .ok (.iadd, 1)) ∧ (decode cL_law 1232 = .ok (.iaload, 1)) ∧ (decode cL_law 1233 = .ok (.aload_n 0, 1)) := by decide +kernel
theorem dL_law_1226 : decode cL_law 1226 = .ok (.iadd, 1) := dL_law_1226_b.1
theorem dL_law_1227 : decode cL_law 1227 = .ok (.iaload, 1) := dL_law_1226_b.2.1
theorem dL_law_1228 : decode cL_law 1228 = .ok (.aload_n 0, 1) := dL_law_1226_b.2.2.1
theorem dL_law_1229 : decode cL_law 1229 = .ok (.iload_n 3, 1) := dL_law_1226_b.2.2.2.1
theorem dL_law_1230 : decode cL_law 1230 = .ok (.iconst 2, 1) := dL_law_1226_b.2.2.2.2.1
theorem dL_law_1231 : decode cL_law 1231 = .ok (.iadd, 1) := dL_law_1226_b.2.2.2.2.2.1
theorem dL_law_1232 : decode cL_law 1232 = .ok (.iaload, 1) := dL_law_1226_b.2.2.2.2.2.2.1
theorem dL_law_1233 : decode cL_law 1233 = .ok (.aload_n 0, 1) := dL_law_1226_b.2.2.2.2.2.2.2
theorem dL_law_1234_b : (decode cL_law 1234 = .ok (.iload_n 3, 1)) ∧ (decode cL_law 1235 = .ok (.iconst 3, 1)) ∧ (decode cL_law 1236 = .ok (.iadd, 1)) ∧ (decode cL_law 1237 = .ok (.iaload, 1)) ∧ (decode cL_law 1238 = .ok (.invokevirtual 139, 3)) ∧ (decode cL_law 1241 = .ok (.pop, 1)) ∧ (decode cL_law 1242 = .ok (.goto 181, 3)) ∧ (decode cL_law 1245 = .ok (.aload_n 1, 1)) := by decide +kernel
theorem dL_law_1234 : decode cL_law 1234 = .ok (.iload_n 3, 1) := dL_law_1234_b.1
theorem dL_law_1235 : decode cL_law 1235 = .ok (.iconst 3, 1) := dL_law_1234_b.2.1
theorem dL_law_1236 : decode cL_law 1236 = .ok (.iadd, 1) := dL_law_1234_b.2.2.1
theorem dL_law_1237 : decode cL_law 1237 = .ok (.iaload, 1) := dL_law_1234_b.2.2.2.1
theorem dL_law_1238 : decode cL_law 1238 = .ok (.invokevirtual 139, 3) := dL_law_1234_b.2.2.2.2.1
theorem dL_law_1241 : decode cL_law 1241 = .ok (.pop, 1) := dL_law_1234_b.2.2.2.2.2.1
theorem dL_law_1242 : decode cL_law 1242 = .ok (.goto 181, 3) := dL_law_1234_b.2.2.2.2.2.2.1
theorem dL_law_1245 : decode cL_law 1245 = .ok (.aload_n 1, 1) := dL_law_1234_b.2.2.2.2.2.2.2
theorem dL_law_1246_b : (decode cL_law 1246 = .ok (.aload_n 0, 1)) ∧ (decode cL_law 1247 = .ok (.iload_n 3, 1)) ∧ (decode cL_law 1248 = .ok (.iconst 1, 1)) ∧ (decode cL_law 1249 = .ok (.iadd, 1)) ∧ (decode cL_law 1250 = .ok (.iaload, 1)) ∧ (decode cL_law 1251 = .ok (.aload_n 0, 1)) ∧ (decode cL_law 1252 = .ok (.iload_n 3, 1)) ∧ (decode cL_law 1253 = .ok (.iconst 2, 1)) := by decide +kernel
theorem dL_law_1246 : decode cL_law 1246 = .ok (.aload_n 0, 1) := dL_law_1246_b.1
theorem dL_law_1247 : decode cL_law 1247 = .ok (.iload_n 3, 1) := dL_law_1246_b.2.1
theorem dL_law_1248 : decode cL_law 1248 = .ok (.iconst 1, 1) := dL_law_1246_b.2.2.1
theorem dL_law_1249 : decode cL_law 1249 = .ok (.iadd, 1) := dL_law_1246_b.2.2.2.1
theorem dL_law_1250 : decode cL_law 1250 = .ok (.iaload, 1) := dL_law_1246_b.2.2.2.2.1
theorem dL_law_1251 : decode cL_law 1251 = .ok (.aload_n 0, 1) := dL_law_1246_b.2.2.2.2.2.1
theorem dL_law_1252 : decode cL_law 1252 = .ok (.iload_n 3, 1) := dL_law_1246_b.2.2.2.2.2.2.1
theorem dL_law_1253 : decode cL_law 1253 = .ok (.iconst 2, 1) := dL_law_1246_b.2.2.2.2.2.2.2
theorem dL_law_1254_b : (decode cL_law 1254 = .ok (.iadd, 1)) ∧ (decode cL_law 1255 = .ok (.iaload, 1)) ∧ (decode cL_law 1256 = .ok (.aload_n 0, 1)) ∧ (decode cL_law 1257 = .ok (.iload_n 3, 1)) ∧ (decode cL_law 1258 = .ok (.iconst 3, 1)) ∧ (decode cL_law 1259 = .ok (.iadd, 1)) ∧ (decode cL_law 1260 = .ok (.iaload, 1)) ∧ (decode cL_law 1261 = .ok (.invokevirtual 140, 3)) := by decide +kernel
theorem dL_law_1254 : decode cL_law 1254 = .ok (.iadd, 1) := dL_law_1254_b.1
theorem dL_law_1255 : decode cL_law 1255 = .ok (.iaload, 1) := dL_law_1254_b.2.1
theorem dL_law_1256 : decode cL_law 1256 = .ok (.aload_n 0, 1) := dL_law_1254_b.2.2.1
theorem dL_law_1257 : decode cL_law 1257 = .ok (.iload_n 3, 1) := dL_law_1254_b.2.2.2.1
theorem dL_law_1258 : decode cL_law 1258 = .ok (.iconst 3, 1) := dL_law_1254_b.2.2.2.2.1
theorem dL_law_1259 : decode cL_law 1259 = .ok (.iadd, 1) := dL_law_1254_b.2.2.2.2.2.1
theorem dL_law_1260 : decode cL_law 1260 = .ok (.iaload, 1) := dL_law_1254_b.2.2.2.2.2.2.1
theorem dL_law_1261 : decode cL_law 1261 = .ok (.invokevirtual 140, 3) := dL_law_1254_b.2.2.2.2.2.2.2
theorem dL_law_1264_b : (decode cL_law 1264 = .ok (.pop, 1)) ∧ (decode cL_law 1265 = .ok (.aload_n 2, 1)) ∧ (decode cL_law 1266 = .ok (.aload_n 0, 1)) ∧ (decode cL_law 1267 = .ok (.iload_n 3, 1)) := by decide +kernel
theorem dL_law_1264 : decode cL_law 1264 = .ok (.pop, 1) := dL_law_1264_b.1
theorem dL_law_1265 : decode cL_law 1265 = .ok (.aload_n 2, 1) := dL_law_1264_b.2.1
theorem dL_law_1266 : decode cL_law 1266 = .ok (.aload_n 0, 1) := dL_law_1264_b.2.2.1
theorem dL_law_1267 : decode cL_law 1267 = .ok (.iload_n 3, 1) := dL_law_1264_b.2.2.2
