theorem dL_law_945 : decode cL_law 945 = .ok (.invokevirtual 106, 3) := dec_u2 (g := fun n => .invokevirtual n) (at_of zLd_29 (show zLb_29[17]? = some 0xb6 from rfl) rfl) (at_of zLd_29 (show zLb_29[18]? = some 0x00 from rfl) rfl) (at_of zLd_29 (show zLb_29[19]? = some 0x6a from rfl) rfl) (zLo_b6 945)
theorem dL_law_948 : decode cL_law 948 = .ok (.pop, 1) := dec_of (s' := 949) (at_of zLd_29 (show zLb_29[20]? = some 0x57 from rfl) rfl) (zLo_57 948 _)
theorem dL_law_949 : decode cL_law 949 = .ok (.goto 748, 3) := by decide +kernel
theorem dL_law_952 : decode cL_law 952 = .ok (.aload_n 1, 1) := dec_of (s' := 953) (at_of zLd_29 (show zLb_29[24]? = some 0x2b from rfl) rfl) (zLo_2b 952 _)
theorem dL_law_953 : decode cL_law 953 = .ok (.aload_n 0, 1) := dec_of (s' := 954) (at_of zLd_29 (show zLb_29[25]? = some 0x2a from rfl) rfl) (zLo_2a 953 _)
theorem dL_law_954 : decode cL_law 954 = .ok (.iload 4, 2) := dec_u1 (g := fun n => .iload n) (at_of zLd_29 (show zLb_29[26]? = some 0x15 from rfl) rfl) (at_of zLd_29 (show zLb_29[27]? = some 0x04 from rfl) rfl) (zLo_15 954)
theorem dL_law_956 : decode cL_law 956 = .ok (.iconst 1, 1) := dec_of (s' := 957) (at_of zLd_29 (show zLb_29[28]? = some 0x04 from rfl) rfl) (zLo_04 956 _)
theorem dL_law_957 : decode cL_law 957 = .ok (.iadd, 1) := dec_of (s' := 958) (at_of zLd_29 (show zLb_29[29]? = some 0x60 from rfl) rfl) (zLo_60 957 _)
theorem dL_law_958 : decode cL_law 958 = .ok (.iaload, 1) := dec_of (s' := 959) (at_of zLd_29 (show zLb_29[30]? = some 0x2e from rfl) rfl) (zLo_2e 958 _)
theorem dL_law_959 : decode cL_law 959 = .ok (.aload_n 0, 1) := dec_of (s' := 960) (at_of zLd_29 (show zLb_29[31]? = some 0x2a from rfl) rfl) (zLo_2a 959 _)
theorem dL_law_960 : decode cL_law 960 = .ok (.iload 4, 2) := dec_u1 (g := fun n => .iload n) (at_of zLd_30 (show zLb_30[0]? = some 0x15 from rfl) rfl) (at_of zLd_30 (show zLb_30[1]? = some 0x04 from rfl) rfl) (zLo_15 960)
theorem dL_law_962 : decode cL_law 962 = .ok (.iconst 2, 1) := dec_of (s' := 963) (at_of zLd_30 (show zLb_30[2]? = some 0x05 from rfl) rfl) (zLo_05 962 _)
theorem dL_law_963 : decode cL_law 963 = .ok (.iadd, 1) := dec_of (s' := 964) (at_of zLd_30 (show zLb_30[3]? = some 0x60 from rfl) rfl) (zLo_60 963 _)
theorem dL_law_964 : decode cL_law 964 = .ok (.iaload, 1) := dec_of (s' := 965) (at_of zLd_30 (show zLb_30[4]? = some 0x2e from rfl) rfl) (zLo_2e 964 _)
theorem dL_law_965 : decode cL_law 965 = .ok (.invokevirtual 107, 3) := dec_u2 (g := fun n => .invokevirtual n) (at_of zLd_30 (show zLb_30[5]? = some 0xb6 from rfl) rfl) (at_of zLd_30 (show zLb_30[6]? = some 0x00 from rfl) rfl) (at_of zLd_30 (show zLb_30[7]? = some 0x6b from rfl) rfl) (zLo_b6 965)
theorem dL_law_968 : decode cL_law 968 = .ok (.pop, 1) := dec_of (s' := 969) (at_of zLd_30 (show zLb_30[8]? = some 0x57 from rfl) rfl) (zLo_57 968 _)
theorem dL_law_969 : decode cL_law 969 = .ok (.aload_n 2, 1) := dec_of (s' := 970) (at_of zLd_30 (show zLb_30[9]? = some 0x2c from rfl) rfl) (zLo_2c 969 _)
theorem dL_law_970 : decode cL_law 970 = .ok (.aload_n 0, 1) := dec_of (s' := 971) (at_of zLd_30 (show zLb_30[10]? = some 0x2a from rfl) rfl) (zLo_2a 970 _)
theorem dL_law_971 : decode cL_law 971 = .ok (.iload 4, 2) := dec_u1 (g := fun n => .iload n) (at_of zLd_30 (show zLb_30[11]? = some 0x15 from rfl) rfl) (at_of zLd_30 (show zLb_30[12]? = some 0x04 from rfl) rfl) (zLo_15 971)
theorem dL_law_973 : decode cL_law 973 = .ok (.iconst 1, 1) := dec_of (s' := 974) (at_of zLd_30 (show zLb_30[13]? = some 0x04 from rfl) rfl) (zLo_04 973 _)
theorem dL_law_974 : decode cL_law 974 = .ok (.iadd, 1) := dec_of (s' := 975) (at_of zLd_30 (show zLb_30[14]? = some 0x60 from rfl) rfl) (zLo_60 974 _)
theorem dL_law_975 : decode cL_law 975 = .ok (.iaload, 1) := dec_of (s' := 976) (at_of zLd_30 (show zLb_30[15]? = some 0x2e from rfl) rfl) (zLo_2e 975 _)
theorem dL_law_976 : decode cL_law 976 = .ok (.aload_n 0, 1) := dec_of (s' := 977) (at_of zLd_30 (show zLb_30[16]? = some 0x2a from rfl) rfl) (zLo_2a 976 _)
theorem dL_law_977 : decode cL_law 977 = .ok (.iload 4, 2) := dec_u1 (g := fun n => .iload n) (at_of zLd_30 (show zLb_30[17]? = some 0x15 from rfl) rfl) (at_of zLd_30 (show zLb_30[18]? = some 0x04 from rfl) rfl) (zLo_15 977)
theorem dL_law_979 : decode cL_law 979 = .ok (.iconst 2, 1) := dec_of (s' := 980) (at_of zLd_30 (show zLb_30[19]? = some 0x05 from rfl) rfl) (zLo_05 979 _)
theorem dL_law_980 : decode cL_law 980 = .ok (.iadd, 1) := dec_of (s' := 981) (at_of zLd_30 (show zLb_30[20]? = some 0x60 from rfl) rfl) (zLo_60 980 _)
theorem dL_law_981 : decode cL_law 981 = .ok (.iaload, 1) := dec_of (s' := 982) (at_of zLd_30 (show zLb_30[21]? = some 0x2e from rfl) rfl) (zLo_2e 981 _)
theorem dL_law_982 : decode cL_law 982 = .ok (.invokevirtual 110, 3) := dec_u2 (g := fun n => .invokevirtual n) (at_of zLd_30 (show zLb_30[22]? = some 0xb6 from rfl) rfl) (at_of zLd_30 (show zLb_30[23]? = some 0x00 from rfl) rfl) (at_of zLd_30 (show zLb_30[24]? = some 0x6e from rfl) rfl) (zLo_b6 982)
theorem dL_law_985 : decode cL_law 985 = .ok (.pop, 1) := dec_of (s' := 986) (at_of zLd_30 (show zLb_30[25]? = some 0x57 from rfl) rfl) (zLo_57 985 _)
theorem dL_law_986 : decode cL_law 986 = .ok (.goto 711, 3) := by decide +kernel
theorem dL_law_989 : decode cL_law 989 = .ok (.aload_n 1, 1) := dec_of (s' := 990) (at_of zLd_30 (show zLb_30[29]? = some 0x2b from rfl) rfl) (zLo_2b 989 _)
theorem dL_law_990 : decode cL_law 990 = .ok (.aload_n 0, 1) := dec_of (s' := 991) (at_of zLd_30 (show zLb_30[30]? = some 0x2a from rfl) rfl) (zLo_2a 990 _)
theorem dL_law_991 : decode cL_law 991 = .ok (.iload 4, 2) := dec_u1 (g := fun n => .iload n) (at_of zLd_30 (show zLb_30[31]? = some 0x15 from rfl) rfl) (at_of zLd_31 (show zLb_31[0]? = some 0x04 from rfl) rfl) (zLo_15 991)
theorem dL_law_993 : decode cL_law 993 = .ok (.iconst 1, 1) := dec_of (s' := 994) (at_of zLd_31 (show zLb_31[1]? = some 0x04 from rfl) rfl) (zLo_04 993 _)
theorem dL_law_994 : decode cL_law 994 = .ok (.iadd, 1) := dec_of (s' := 995) (at_of zLd_31 (show zLb_31[2]? = some 0x60 from rfl) rfl) (zLo_60 994 _)
theorem dL_law_995 : decode cL_law 995 = .ok (.iaload, 1) := dec_of (s' := 996) (at_of zLd_31 (show zLb_31[3]? = some 0x2e from rfl) rfl) (zLo_2e 995 _)
theorem dL_law_996 : decode cL_law 996 = .ok (.invokevirtual 111, 3) := dec_u2 (g := fun n => .invokevirtual n) (at_of zLd_31 (show zLb_31[4]? = some 0xb6 from rfl) rfl) (at_of zLd_31 (show zLb_31[5]? = some 0x00 from rfl) rfl) (at_of zLd_31 (show zLb_31[6]? = some 0x6f from rfl) rfl) (zLo_b6 996)
theorem dL_law_999 : decode cL_law 999 = .ok (.pop, 1) := dec_of (s' := 1000) (at_of zLd_31 (show zLb_31[7]? = some 0x57 from rfl) rfl) (zLo_57 999 _)
theorem dL_law_1000 : decode cL_law 1000 = .ok (.aload_n 2, 1) := dec_of (s' := 1001) (at_of zLd_31 (show zLb_31[8]? = some 0x2c from rfl) rfl) (zLo_2c 1000 _)
theorem dL_law_1001 : decode cL_law 1001 = .ok (.aload_n 0, 1) := dec_of (s' := 1002) (at_of zLd_31 (show zLb_31[9]? = some 0x2a from rfl) rfl) (zLo_2a 1001 _)
theorem dL_law_1002 : decode cL_law 1002 = .ok (.iload 4, 2) := dec_u1 (g := fun n => .iload n) (at_of zLd_31 (show zLb_31[10]? = some 0x15 from rfl) rfl) (at_of zLd_31 (show zLb_31[11]? = some 0x04 from rfl) rfl) (zLo_15 1002)
theorem dL_law_1004 : decode cL_law 1004 = .ok (.iconst 1, 1) := dec_of (s' := 1005) (at_of zLd_31 (show zLb_31[12]? = some 0x04 from rfl) rfl) (zLo_04 1004 _)
theorem dL_law_1005 : decode cL_law 1005 = .ok (.iadd, 1) := dec_of (s' := 1006) (at_of zLd_31 (show zLb_31[13]? = some 0x60 from rfl) rfl) (zLo_60 1005 _)
theorem dL_law_1006 : decode cL_law 1006 = .ok (.iaload, 1) := dec_of (s' := 1007) (at_of zLd_31 (show zLb_31[14]? = some 0x2e from rfl) rfl) (zLo_2e 1006 _)
theorem dL_law_1007 : decode cL_law 1007 = .ok (.invokevirtual 114, 3) := dec_u2 (g := fun n => .invokevirtual n) (at_of zLd_31 (show zLb_31[15]? = some 0xb6 from rfl) rfl) (at_of zLd_31 (show zLb_31[16]? = some 0x00 from rfl) rfl) (at_of zLd_31 (show zLb_31[17]? = some 0x72 from rfl) rfl) (zLo_b6 1007)
theorem dL_law_1010 : decode cL_law 1010 = .ok (.pop, 1) := dec_of (s' := 1011) (at_of zLd_31 (show zLb_31[18]? = some 0x57 from rfl) rfl) (zLo_57 1010 _)
theorem dL_law_1011 : decode cL_law 1011 = .ok (.goto 686, 3) := by decide +kernel
theorem dL_law_1014 : decode cL_law 1014 = .ok (.aload_n 1, 1) := dec_of (s' := 1015) (at_of zLd_31 (show zLb_31[22]? = some 0x2b from rfl) rfl) (zLo_2b 1014 _)
theorem dL_law_1015 : decode cL_law 1015 = .ok (.aload_n 0, 1) := dec_of (s' := 1016) (at_of zLd_31 (show zLb_31[23]? = some 0x2a from rfl) rfl) (zLo_2a 1015 _)
theorem dL_law_1016 : decode cL_law 1016 = .ok (.iload 4, 2) := dec_u1 (g := fun n => .iload n) (at_of zLd_31 (show zLb_31[24]? = some 0x15 from rfl) rfl) (at_of zLd_31 (show zLb_31[25]? = some 0x04 from rfl) rfl) (zLo_15 1016)
theorem dL_law_1018 : decode cL_law 1018 = .ok (.iconst 1, 1) := dec_of (s' := 1019) (at_of zLd_31 (show zLb_31[26]? = some 0x04 from rfl) rfl) (zLo_04 1018 _)
theorem dL_law_1019 : decode cL_law 1019 = .ok (.iadd, 1) := dec_of (s' := 1020) (at_of zLd_31 (show zLb_31[27]? = some 0x60 from rfl) rfl) (zLo_60 1019 _)
theorem dL_law_1020 : decode cL_law 1020 = .ok (.iaload, 1) := dec_of (s' := 1021) (at_of zLd_31 (show zLb_31[28]? = some 0x2e from rfl) rfl) (zLo_2e 1020 _)
theorem dL_law_1021 : decode cL_law 1021 = .ok (.invokevirtual 115, 3) := dec_u2 (g := fun n => .invokevirtual n) (at_of zLd_31 (show zLb_31[29]? = some 0xb6 from rfl) rfl) (at_of zLd_31 (show zLb_31[30]? = some 0x00 from rfl) rfl) (at_of zLd_31 (show zLb_31[31]? = some 0x73 from rfl) rfl) (zLo_b6 1021)
theorem dL_law_1024 : decode cL_law 1024 = .ok (.pop, 1) := dec_of (s' := 1025) (at_of zLd_32 (show zLb_32[0]? = some 0x57 from rfl) rfl) (zLo_57 1024 _)
theorem dL_law_1025 : decode cL_law 1025 = .ok (.aload_n 2, 1) := dec_of (s' := 1026) (at_of zLd_32 (show zLb_32[1]? = some 0x2c from rfl) rfl) (zLo_2c 1025 _)
theorem dL_law_1026 : decode cL_law 1026 = .ok (.aload_n 0, 1) := dec_of (s' := 1027) (at_of zLd_32 (show zLb_32[2]? = some 0x2a from rfl) rfl) (zLo_2a 1026 _)
theorem dL_law_1027 : decode cL_law 1027 = .ok (.iload 4, 2) := dec_u1 (g := fun n => .iload n) (at_of zLd_32 (show zLb_32[3]? = some 0x15 from rfl) rfl) (at_of zLd_32 (show zLb_32[4]? = some 0x04 from rfl) rfl) (zLo_15 1027)
theorem dL_law_1029 : decode cL_law 1029 = .ok (.iconst 1, 1) := dec_of (s' := 1030) (at_of zLd_32 (show zLb_32[5]? = some 0x04 from rfl) rfl) (zLo_04 1029 _)
theorem dL_law_1030 : decode cL_law 1030 = .ok (.iadd, 1) := dec_of (s' := 1031) (at_of zLd_32 (show zLb_32[6]? = some 0x60 from rfl) rfl) (zLo_60 1030 _)
theorem dL_law_1031 : decode cL_law 1031 = .ok (.iaload, 1) := dec_of (s' := 1032) (at_of zLd_32 (show zLb_32[7]? = some 0x2e from rfl) rfl) (zLo_2e 1031 _)
theorem dL_law_1032 : decode cL_law 1032 = .ok (.invokevirtual 118, 3) := dec_u2 (g := fun n => .invokevirtual n) (at_of zLd_32 (show zLb_32[8]? = some 0xb6 from rfl) rfl) (at_of zLd_32 (show zLb_32[9]? = some 0x00 from rfl) rfl) (at_of zLd_32 (show zLb_32[10]? = some 0x76 from rfl) rfl) (zLo_b6 1032)
theorem dL_law_1035 : decode cL_law 1035 = .ok (.pop, 1) := dec_of (s' := 1036) (at_of zLd_32 (show zLb_32[11]? = some 0x57 from rfl) rfl) (zLo_57 1035 _)
theorem dL_law_1036 : decode cL_law 1036 = .ok (.goto 661, 3) := by decide +kernel
theorem dL_law_1039 : decode cL_law 1039 = .ok (.aload_n 1, 1) := dec_of (s' := 1040) (at_of zLd_32 (show zLb_32[15]? = some 0x2b from rfl) rfl) (zLo_2b 1039 _)
theorem dL_law_1040 : decode cL_law 1040 = .ok (.invokevirtual 119, 3) := dec_u2 (g := fun n => .invokevirtual n) (at_of zLd_32 (show zLb_32[16]? = some 0xb6 from rfl) rfl) (at_of zLd_32 (show zLb_32[17]? = some 0x00 from rfl) rfl) (at_of zLd_32 (show zLb_32[18]? = some 0x77 from rfl) rfl) (zLo_b6 1040)
theorem dL_law_1043 : decode cL_law 1043 = .ok (.pop, 1) := dec_of (s' := 1044) (at_of zLd_32 (show zLb_32[19]? = some 0x57 from rfl) rfl) (zLo_57 1043 _)
theorem dL_law_1044 : decode cL_law 1044 = .ok (.aload_n 2, 1) := dec_of (s' := 1045) (at_of zLd_32 (show zLb_32[20]? = some 0x2c from rfl) rfl) (zLo_2c 1044 _)
theorem dL_law_1045 : decode cL_law 1045 = .ok (.invokevirtual 122, 3) := dec_u2 (g := fun n => .invokevirtual n) (at_of zLd_32 (show zLb_32[21]? = some 0xb6 from rfl) rfl) (at_of zLd_32 (show zLb_32[22]? = some 0x00 from rfl) rfl) (at_of zLd_32 (show zLb_32[23]? = some 0x7a from rfl) rfl) (zLo_b6 1045)
theorem dL_law_1048 : decode cL_law 1048 = .ok (.pop, 1) := dec_of (s' := 1049) (at_of zLd_32 (show zLb_32[24]? = some 0x57 from rfl) rfl) (zLo_57 1048 _)
theorem dL_law_1049 : decode cL_law 1049 = .ok (.goto 648, 3) := by decide +kernel
theorem dL_law_1052 : decode cL_law 1052 = .ok (.aload_n 1, 1) := dec_of (s' := 1053) (at_of zLd_32 (show zLb_32[28]? = some 0x2b from rfl) rfl) (zLo_2b 1052 _)
theorem dL_law_1053 : decode cL_law 1053 = .ok (.aload_n 0, 1) := dec_of (s' := 1054) (at_of zLd_32 (show zLb_32[29]? = some 0x2a from rfl) rfl) (zLo_2a 1053 _)
theorem dL_law_1054 : decode cL_law 1054 = .ok (.iload 4, 2) := dec_u1 (g := fun n => .iload n) (at_of zLd_32 (show zLb_32[30]? = some 0x15 from rfl) rfl) (at_of zLd_32 (show zLb_32[31]? = some 0x04 from rfl) rfl) (zLo_15 1054)
theorem dL_law_1056 : decode cL_law 1056 = .ok (.iconst 1, 1) := dec_of (s' := 1057) (at_of zLd_33 (show zLb_33[0]? = some 0x04 from rfl) rfl) (zLo_04 1056 _)
theorem dL_law_1057 : decode cL_law 1057 = .ok (.iadd, 1) := dec_of (s' := 1058) (at_of zLd_33 (show zLb_33[1]? = some 0x60 from rfl) rfl) (zLo_60 1057 _)
theorem dL_law_1058 : decode cL_law 1058 = .ok (.iaload, 1) := dec_of (s' := 1059) (at_of zLd_33 (show zLb_33[2]? = some 0x2e from rfl) rfl) (zLo_2e 1058 _)
theorem dL_law_1059 : decode cL_law 1059 = .ok (.aload_n 0, 1) := dec_of (s' := 1060) (at_of zLd_33 (show zLb_33[3]? = some 0x2a from rfl) rfl) (zLo_2a 1059 _)
theorem dL_law_1060 : decode cL_law 1060 = .ok (.iload 4, 2) := dec_u1 (g := fun n => .iload n) (at_of zLd_33 (show zLb_33[4]? = some 0x15 from rfl) rfl) (at_of zLd_33 (show zLb_33[5]? = some 0x04 from rfl) rfl) (zLo_15 1060)
theorem dL_law_1062 : decode cL_law 1062 = .ok (.iconst 2, 1) := dec_of (s' := 1063) (at_of zLd_33 (show zLb_33[6]? = some 0x05 from rfl) rfl) (zLo_05 1062 _)
theorem dL_law_1063 : decode cL_law 1063 = .ok (.iadd, 1) := dec_of (s' := 1064) (at_of zLd_33 (show zLb_33[7]? = some 0x60 from rfl) rfl) (zLo_60 1063 _)
theorem dL_law_1064 : decode cL_law 1064 = .ok (.iaload, 1) := dec_of (s' := 1065) (at_of zLd_33 (show zLb_33[8]? = some 0x2e from rfl) rfl) (zLo_2e 1064 _)
theorem dL_law_1065 : decode cL_law 1065 = .ok (.aload_n 0, 1) := dec_of (s' := 1066) (at_of zLd_33 (show zLb_33[9]? = some 0x2a from rfl) rfl) (zLo_2a 1065 _)
theorem dL_law_1066 : decode cL_law 1066 = .ok (.iload 4, 2) := dec_u1 (g := fun n => .iload n) (at_of zLd_33 (show zLb_33[10]? = some 0x15 from rfl) rfl) (at_of zLd_33 (show zLb_33[11]? = some 0x04 from rfl) rfl) (zLo_15 1066)
theorem dL_law_1068 : decode cL_law 1068 = .ok (.iconst 3, 1) := dec_of (s' := 1069) (at_of zLd_33 (show zLb_33[12]? = some 0x06 from rfl) rfl) (zLo_06 1068 _)
theorem dL_law_1069 : decode cL_law 1069 = .ok (.iadd, 1) := dec_of (s' := 1070) (at_of zLd_33 (show zLb_33[13]? = some 0x60 from rfl) rfl) (zLo_60 1069 _)
theorem dL_law_1070 : decode cL_law 1070 = .ok (.iaload, 1) := dec_of (s' := 1071) (at_of zLd_33 (show zLb_33[14]? = some 0x2e from rfl) rfl) (zLo_2e 1070 _)
theorem dL_law_1071 : decode cL_law 1071 = .ok (.aload_n 0, 1) := dec_of (s' := 1072) (at_of zLd_33 (show zLb_33[15]? = some 0x2a from rfl) rfl) (zLo_2a 1071 _)
theorem dL_law_1072 : decode cL_law 1072 = .ok (.iload 4, 2) := dec_u1 (g := fun n => .iload n) (at_of zLd_33 (show zLb_33[16]? = some 0x15 from rfl) rfl) (at_of zLd_33 (show zLb_33[17]? = some 0x04 from rfl) rfl) (zLo_15 1072)
theorem dL_law_1074 : decode cL_law 1074 = .ok (.iconst 4, 1) := dec_of (s' := 1075) (at_of zLd_33 (show zLb_33[18]? = some 0x07 from rfl) rfl) (zLo_07 1074 _)
theorem dL_law_1075 : decode cL_law 1075 = .ok (.iadd, 1) := dec_of (s' := 1076) (at_of zLd_33 (show zLb_33[19]? = some 0x60 from rfl) rfl) (zLo_60 1075 _)
theorem dL_law_1076 : decode cL_law 1076 = .ok (.iaload, 1) := dec_of (s' := 1077) (at_of zLd_33 (show zLb_33[20]? = some 0x2e from rfl) rfl) (zLo_2e 1076 _)
theorem dL_law_1077 : decode cL_law 1077 = .ok (.aload_n 0, 1) := dec_of (s' := 1078) (at_of zLd_33 (show zLb_33[21]? = some 0x2a from rfl) rfl) (zLo_2a 1077 _)
theorem dL_law_1078 : decode cL_law 1078 = .ok (.iload 4, 2) := dec_u1 (g := fun n => .iload n) (at_of zLd_33 (show zLb_33[22]? = some 0x15 from rfl) rfl) (at_of zLd_33 (show zLb_33[23]? = some 0x04 from rfl) rfl) (zLo_15 1078)
theorem dL_law_1080 : decode cL_law 1080 = .ok (.iconst 5, 1) := dec_of (s' := 1081) (at_of zLd_33 (show zLb_33[24]? = some 0x08 from rfl) rfl) (zLo_08 1080 _)
theorem dL_law_1081 : decode cL_law 1081 = .ok (.iadd, 1) := dec_of (s' := 1082) (at_of zLd_33 (show zLb_33[25]? = some 0x60 from rfl) rfl) (zLo_60 1081 _)
theorem dL_law_1082 : decode cL_law 1082 = .ok (.iaload, 1) := dec_of (s' := 1083) (at_of zLd_33 (show zLb_33[26]? = some 0x2e from rfl) rfl) (zLo_2e 1082 _)
theorem dL_law_1083 : decode cL_law 1083 = .ok (.invokevirtual 123, 3) := dec_u2 (g := fun n => .invokevirtual n) (at_of zLd_33 (show zLb_33[27]? = some 0xb6 from rfl) rfl) (at_of zLd_33 (show zLb_33[28]? = some 0x00 from rfl) rfl) (at_of zLd_33 (show zLb_33[29]? = some 0x7b from rfl) rfl) (zLo_b6 1083)
theorem dL_law_1086 : decode cL_law 1086 = .ok (.pop, 1) := dec_of (s' := 1087) (at_of zLd_33 (show zLb_33[30]? = some 0x57 from rfl) rfl) (zLo_57 1086 _)
theorem dL_law_1087 : decode cL_law 1087 = .ok (.aload_n 2, 1) := dec_of (s' := 1088) (at_of zLd_33 (show zLb_33[31]? = some 0x2c from rfl) rfl) (zLo_2c 1087 _)
theorem dL_law_1088 : decode cL_law 1088 = .ok (.aload_n 0, 1) := dec_of (s' := 1089) (at_of zLd_34 (show zLb_34[0]? = some 0x2a from rfl) rfl) (zLo_2a 1088 _)
theorem dL_law_1089 : decode cL_law 1089 = .ok (.iload 4, 2) := dec_u1 (g := fun n => .iload n) (at_of zLd_34 (show zLb_34[1]? = some 0x15 from rfl) rfl) (at_of zLd_34 (show zLb_34[2]? = some 0x04 from rfl) rfl) (zLo_15 1089)
theorem dL_law_1091 : decode cL_law 1091 = .ok (.iconst 1, 1) := dec_of (s' := 1092) (at_of zLd_34 (show zLb_34[3]? = some 0x04 from rfl) rfl) (zLo_04 1091 _)
theorem dL_law_1092 : decode cL_law 1092 = .ok (.iadd, 1) := dec_of (s' := 1093) (at_of zLd_34 (show zLb_34[4]? = some 0x60 from rfl) rfl) (zLo_60 1092 _)
theorem dL_law_1093 : decode cL_law 1093 = .ok (.iaload, 1) := dec_of (s' := 1094) (at_of zLd_34 (show zLb_34[5]? = some 0x2e from rfl) rfl) (zLo_2e 1093 _)
theorem dL_law_1094 : decode cL_law 1094 = .ok (.aload_n 0, 1) := dec_of (s' := 1095) (at_of zLd_34 (show zLb_34[6]? = some 0x2a from rfl) rfl) (zLo_2a 1094 _)
theorem dL_law_1095 : decode cL_law 1095 = .ok (.iload 4, 2) := dec_u1 (g := fun n => .iload n) (at_of zLd_34 (show zLb_34[7]? = some 0x15 from rfl) rfl) (at_of zLd_34 (show zLb_34[8]? = some 0x04 from rfl) rfl) (zLo_15 1095)
theorem dL_law_1097 : decode cL_law 1097 = .ok (.iconst 2, 1) := dec_of (s' := 1098) (at_of zLd_34 (show zLb_34[9]? = some 0x05 from rfl) rfl) (zLo_05 1097 _)
theorem dL_law_1098 : decode cL_law 1098 = .ok (.iadd, 1) := dec_of (s' := 1099) (at_of zLd_34 (show zLb_34[10]? = some 0x60 from rfl) rfl) (zLo_60 1098 _)
theorem dL_law_1099 : decode cL_law 1099 = .ok (.iaload, 1) := dec_of (s' := 1100) (at_of zLd_34 (show zLb_34[11]? = some 0x2e from rfl) rfl) (zLo_2e 1099 _)
theorem dL_law_1100 : decode cL_law 1100 = .ok (.aload_n 0, 1) := dec_of (s' := 1101) (at_of zLd_34 (show zLb_34[12]? = some 0x2a from rfl) rfl) (zLo_2a 1100 _)
theorem dL_law_1101 : decode cL_law 1101 = .ok (.iload 4, 2) := dec_u1 (g := fun n => .iload n) (at_of zLd_34 (show zLb_34[13]? = some 0x15 from rfl) rfl) (at_of zLd_34 (show zLb_34[14]? = some 0x04 from rfl) rfl) (zLo_15 1101)
theorem dL_law_1103 : decode cL_law 1103 = .ok (.iconst 3, 1) := dec_of (s' := 1104) (at_of zLd_34 (show zLb_34[15]? = some 0x06 from rfl) rfl) (zLo_06 1103 _)
theorem dL_law_1104 : decode cL_law 1104 = .ok (.iadd, 1) := dec_of (s' := 1105) (at_of zLd_34 (show zLb_34[16]? = some 0x60 from rfl) rfl) (zLo_60 1104 _)
theorem dL_law_1105 : decode cL_law 1105 = .ok (.iaload, 1) := dec_of (s' := 1106) (at_of zLd_34 (show zLb_34[17]? = some 0x2e from rfl) rfl) (zLo_2e 1105 _)
theorem dL_law_1106 : decode cL_law 1106 = .ok (.aload_n 0, 1) := dec_of (s' := 1107) (at_of zLd_34 (show zLb_34[18]? = some 0x2a from rfl) rfl) (zLo_2a 1106 _)
theorem dL_law_1107 : decode cL_law 1107 = .ok (.iload 4, 2) := dec_u1 (g := fun n => .iload n) (at_of zLd_34 (show zLb_34[19]? = some 0x15 from rfl) rfl) (at_of zLd_34 (show zLb_34[20]? = some 0x04 from rfl) rfl) (zLo_15 1107)
theorem dL_law_1109 : decode cL_law 1109 = .ok (.iconst 4, 1) := dec_of (s' := 1110) (at_of zLd_34 (show zLb_34[21]? = some 0x07 from rfl) rfl) (zLo_07 1109 _)
theorem dL_law_1110 : decode cL_law 1110 = .ok (.iadd, 1) := dec_of (s' := 1111) (at_of zLd_34 (show zLb_34[22]? = some 0x60 from rfl) rfl) (zLo_60 1110 _)
theorem dL_law_1111 : decode cL_law 1111 = .ok (.iaload, 1) := dec_of (s' := 1112) (at_of zLd_34 (show zLb_34[23]? = some 0x2e from rfl) rfl) (zLo_2e 1111 _)
theorem dL_law_1112 : decode cL_law 1112 = .ok (.aload_n 0, 1) := dec_of (s' := 1113) (at_of zLd_34 (show zLb_34[24]? = some 0x2a from rfl) rfl) (zLo_2a 1112 _)
theorem dL_law_1113 : decode cL_law 1113 = .ok (.iload 4, 2) := dec_u1 (g := fun n => .iload n) (at_of zLd_34 (show zLb_34[25]? = some 0x15 from rfl) rfl) (at_of zLd_34 (show zLb_34[26]? = some 0x04 from rfl) rfl) (zLo_15 1113)
theorem dL_law_1115 : decode cL_law 1115 = .ok (.iconst 5, 1) := dec_of (s' := 1116) (at_of zLd_34 (show zLb_34[27]? = some 0x08 from rfl) rfl) (zLo_08 1115 _)
theorem dL_law_1116 : decode cL_law 1116 = .ok (.iadd, 1) := dec_of (s' := 1117) (at_of zLd_34 (show zLb_34[28]? = some 0x60 from rfl) rfl) (zLo_60 1116 _)
theorem dL_law_1117 : decode cL_law 1117 = .ok (.iaload, 1) := dec_of (s' := 1118) (at_of zLd_34 (show zLb_34[29]? = some 0x2e from rfl) rfl) (zLo_2e 1117 _)
theorem dL_law_1118 : decode cL_law 1118 = .ok (.invokevirtual 126, 3) := dec_u2 (g := fun n => .invokevirtual n) (at_of zLd_34 (show zLb_34[30]? = some 0xb6 from rfl) rfl) (at_of zLd_34 (show zLb_34[31]? = some 0x00 from rfl) rfl) (at_of zLd_35 (show zLb_35[0]? = some 0x7e from rfl) rfl) (zLo_b6 1118)
theorem dL_law_1121 : decode cL_law 1121 = .ok (.pop, 1) := dec_of (s' := 1122) (at_of zLd_35 (show zLb_35[1]? = some 0x57 from rfl) rfl) (zLo_57 1121 _)
theorem dL_law_1122 : decode cL_law 1122 = .ok (.goto 575, 3) := by decide +kernel
theorem dL_law_1125 : decode cL_law 1125 = .ok (.aload_n 1, 1) := dec_of (s' := 1126) (at_of zLd_35 (show zLb_35[5]? = some 0x2b from rfl) rfl) (zLo_2b 1125 _)
theorem dL_law_1126 : decode cL_law 1126 = .ok (.aload_n 0, 1) := dec_of (s' := 1127) (at_of zLd_35 (show zLb_35[6]? = some 0x2a from rfl) rfl) (zLo_2a 1126 _)
theorem dL_law_1127 : decode cL_law 1127 = .ok (.iload 4, 2) := dec_u1 (g := fun n => .iload n) (at_of zLd_35 (show zLb_35[7]? = some 0x15 from rfl) rfl) (at_of zLd_35 (show zLb_35[8]? = some 0x04 from rfl) rfl) (zLo_15 1127)
theorem dL_law_1129 : decode cL_law 1129 = .ok (.iconst 1, 1) := dec_of (s' := 1130) (at_of zLd_35 (show zLb_35[9]? = some 0x04 from rfl) rfl) (zLo_04 1129 _)
theorem dL_law_1130 : decode cL_law 1130 = .ok (.iadd, 1) := dec_of (s' := 1131) (at_of zLd_35 (show zLb_35[10]? = some 0x60 from rfl) rfl) (zLo_60 1130 _)
theorem dL_law_1131 : decode cL_law 1131 = .ok (.iaload, 1) := dec_of (s' := 1132) (at_of zLd_35 (show zLb_35[11]? = some 0x2e from rfl) rfl) (zLo_2e 1131 _)
theorem dL_law_1132 : decode cL_law 1132 = .ok (.aload_n 0, 1) := dec_of (s' := 1133) (at_of zLd_35 (show zLb_35[12]? = some 0x2a from rfl) rfl) (zLo_2a 1132 _)
theorem dL_law_1133 : decode cL_law 1133 = .ok (.iload 4, 2) := dec_u1 (g := fun n => .iload n) (at_of zLd_35 (show zLb_35[13]? = some 0x15 from rfl) rfl) (at_of zLd_35 (show zLb_35[14]? = some 0x04 from rfl) rfl) (zLo_15 1133)
theorem dL_law_1135 : decode cL_law 1135 = .ok (.iconst 2, 1) := dec_of (s' := 1136) (at_of zLd_35 (show zLb_35[15]? = some 0x05 from rfl) rfl) (zLo_05 1135 _)
theorem dL_law_1136 : decode cL_law 1136 = .ok (.iadd, 1) := dec_of (s' := 1137) (at_of zLd_35 (show zLb_35[16]? = some 0x60 from rfl) rfl) (zLo_60 1136 _)
theorem dL_law_1137 : decode cL_law 1137 = .ok (.iaload, 1) := dec_of (s' := 1138) (at_of zLd_35 (show zLb_35[17]? = some 0x2e from rfl) rfl) (zLo_2e 1137 _)
theorem dL_law_1138 : decode cL_law 1138 = .ok (.invokevirtual 127, 3) := dec_u2 (g := fun n => .invokevirtual n) (at_of zLd_35 (show zLb_35[18]? = some 0xb6 from rfl) rfl) (at_of zLd_35 (show zLb_35[19]? = some 0x00 from rfl) rfl) (at_of zLd_35 (show zLb_35[20]? = some 0x7f from rfl) rfl) (zLo_b6 1138)
theorem dL_law_1141 : decode cL_law 1141 = .ok (.pop, 1) := dec_of (s' := 1142) (at_of zLd_35 (show zLb_35[21]? = some 0x57 from rfl) rfl) (zLo_57 1141 _)
theorem dL_law_1142 : decode cL_law 1142 = .ok (.aload_n 2, 1) := dec_of (s' := 1143) (at_of zLd_35 (show zLb_35[22]? = some 0x2c from rfl) rfl) (zLo_2c 1142 _)
theorem dL_law_1143 : decode cL_law 1143 = .ok (.aload_n 0, 1) := dec_of (s' := 1144) (at_of zLd_35 (show zLb_35[23]? = some 0x2a from rfl) rfl) (zLo_2a 1143 _)
theorem dL_law_1144 : decode cL_law 1144 = .ok (.iload 4, 2) := dec_u1 (g := fun n => .iload n) (at_of zLd_35 (show zLb_35[24]? = some 0x15 from rfl) rfl) (at_of zLd_35 (show zLb_35[25]? = some 0x04 from rfl) rfl) (zLo_15 1144)
theorem dL_law_1146 : decode cL_law 1146 = .ok (.iconst 1, 1) := dec_of (s' := 1147) (at_of zLd_35 (show zLb_35[26]? = some 0x04 from rfl) rfl) (zLo_04 1146 _)
theorem dL_law_1147 : decode cL_law 1147 = .ok (.iadd, 1) := dec_of (s' := 1148) (at_of zLd_35 (show zLb_35[27]? = some 0x60 from rfl) rfl) (zLo_60 1147 _)
theorem dL_law_1148 : decode cL_law 1148 = .ok (.iaload, 1) := dec_of (s' := 1149) (at_of zLd_35 (show zLb_35[28]? = some 0x2e from rfl) rfl) (zLo_2e 1148 _)
theorem dL_law_1149 : decode cL_law 1149 = .ok (.aload_n 0, 1) := dec_of (s' := 1150) (at_of zLd_35 (show zLb_35[29]? = some 0x2a from rfl) rfl) (zLo_2a 1149 _)
theorem dL_law_1150 : decode cL_law 1150 = .ok (.iload 4, 2) := dec_u1 (g := fun n => .iload n) (at_of zLd_35 (show zLb_35[30]? = some 0x15 from rfl) rfl) (at_of zLd_35 (show zLb_35[31]? = some 0x04 from rfl) rfl) (zLo_15 1150)
theorem dL_law_1152 : decode cL_law 1152 = .ok (.iconst 2, 1) := dec_of (s' := 1153) (at_of zLd_36 (show zLb_36[0]? = some 0x05 from rfl) rfl) (zLo_05 1152 _)
theorem dL_law_1153 : decode cL_law 1153 = .ok (.iadd, 1) := dec_of (s' := 1154) (at_of zLd_36 (show zLb_36[1]? = some 0x60 from rfl) rfl) (zLo_60 1153 _)
theorem dL_law_1154 : decode cL_law 1154 = .ok (.iaload, 1) := dec_of (s' := 1155) (at_of zLd_36 (show zLb_36[2]? = some 0x2e from rfl) rfl) (zLo_2e 1154 _)
theorem dL_law_1155 : decode cL_law 1155 = .ok (.invokevirtual 130, 3) := dec_u2 (g := fun n => .invokevirtual n) (at_of zLd_36 (show zLb_36[3]? = some 0xb6 from rfl) rfl) (at_of zLd_36 (show zLb_36[4]? = some 0x00 from rfl) rfl) (at_of zLd_36 (show zLb_36[5]? = some 0x82 from rfl) rfl) (zLo_b6 1155)
theorem dL_law_1158 : decode cL_law 1158 = .ok (.pop, 1) := dec_of (s' := 1159) (at_of zLd_36 (show zLb_36[6]? = some 0x57 from rfl) rfl) (zLo_57 1158 _)
theorem dL_law_1159 : decode cL_law 1159 = .ok (.goto 538, 3) := by decide +kernel
theorem dL_law_1162 : decode cL_law 1162 = .ok (.aload_n 1, 1) := dec_of (s' := 1163) (at_of zLd_36 (show zLb_36[10]? = some 0x2b from rfl) rfl) (zLo_2b 1162 _)
theorem dL_law_1163 : decode cL_law 1163 = .ok (.aload_n 0, 1) := dec_of (s' := 1164) (at_of zLd_36 (show zLb_36[11]? = some 0x2a from rfl) rfl) (zLo_2a 1163 _)
theorem dL_law_1164 : decode cL_law 1164 = .ok (.iload 4, 2) := dec_u1 (g := fun n => .iload n) (at_of zLd_36 (show zLb_36[12]? = some 0x15 from rfl) rfl) (at_of zLd_36 (show zLb_36[13]? = some 0x04 from rfl) rfl) (zLo_15 1164)
theorem dL_law_1166 : decode cL_law 1166 = .ok (.iconst 1, 1) := dec_of (s' := 1167) (at_of zLd_36 (show zLb_36[14]? = some 0x04 from rfl) rfl) (zLo_04 1166 _)
theorem dL_law_1167 : decode cL_law 1167 = .ok (.iadd, 1) := dec_of (s' := 1168) (at_of zLd_36 (show zLb_36[15]? = some 0x60 from rfl) rfl) (zLo_60 1167 _)
theorem dL_law_1168 : decode cL_law 1168 = .ok (.iaload, 1) := dec_of (s' := 1169) (at_of zLd_36 (show zLb_36[16]? = some 0x2e from rfl) rfl) (zLo_2e 1168 _)
theorem dL_law_1169 : decode cL_law 1169 = .ok (.aload_n 0, 1) := dec_of (s' := 1170) (at_of zLd_36 (show zLb_36[17]? = some 0x2a from rfl) rfl) (zLo_2a 1169 _)
theorem dL_law_1170 : decode cL_law 1170 = .ok (.iload 4, 2) := dec_u1 (g := fun n => .iload n) (at_of zLd_36 (show zLb_36[18]? = some 0x15 from rfl) rfl) (at_of zLd_36 (show zLb_36[19]? = some 0x04 from rfl) rfl) (zLo_15 1170)
theorem dL_law_1172 : decode cL_law 1172 = .ok (.iconst 2, 1) := dec_of (s' := 1173) (at_of zLd_36 (show zLb_36[20]? = some 0x05 from rfl) rfl) (zLo_05 1172 _)
theorem dL_law_1173 : decode cL_law 1173 = .ok (.iadd, 1) := dec_of (s' := 1174) (at_of zLd_36 (show zLb_36[21]? = some 0x60 from rfl) rfl) (zLo_60 1173 _)
theorem dL_law_1174 : decode cL_law 1174 = .ok (.iaload, 1) := dec_of (s' := 1175) (at_of zLd_36 (show zLb_36[22]? = some 0x2e from rfl) rfl) (zLo_2e 1174 _)
theorem dL_law_1175 : decode cL_law 1175 = .ok (.invokevirtual 131, 3) := dec_u2 (g := fun n => .invokevirtual n) (at_of zLd_36 (show zLb_36[23]? = some 0xb6 from rfl) rfl) (at_of zLd_36 (show zLb_36[24]? = some 0x00 from rfl) rfl) (at_of zLd_36 (show zLb_36[25]? = some 0x83 from rfl) rfl) (zLo_b6 1175)
theorem dL_law_1178 : decode cL_law 1178 = .ok (.pop, 1) := dec_of (s' := 1179) (at_of zLd_36 (show zLb_36[26]? = some 0x57 from rfl) rfl) (zLo_57 1178 _)
theorem dL_law_1179 : decode cL_law 1179 = .ok (.aload_n 2, 1) := dec_of (s' := 1180) (at_of zLd_36 (show zLb_36[27]? = some 0x2c from rfl) rfl) (zLo_2c 1179 _)
theorem dL_law_1180 : decode cL_law 1180 = .ok (.aload_n 0, 1) := dec_of (s' := 1181) (at_of zLd_36 (show zLb_36[28]? = some 0x2a from rfl) rfl) (zLo_2a 1180 _)
theorem dL_law_1181 : decode cL_law 1181 = .ok (.iload 4, 2) := dec_u1 (g := fun n => .iload n) (at_of zLd_36 (show zLb_36[29]? = some 0x15 from rfl) rfl) (at_of zLd_36 (show zLb_36[30]? = some 0x04 from rfl) rfl) (zLo_15 1181)
theorem dL_law_1183 : decode cL_law 1183 = .ok (.iconst 1, 1) := dec_of (s' := 1184) (at_of zLd_36 (show zLb_36[31]? = some 0x04 from rfl) rfl) (zLo_04 1183 _)
theorem dL_law_1184 : decode cL_law 1184 = .ok (.iadd, 1) := dec_of (s' := 1185) (at_of zLd_37 (show zLb_37[0]? = some 0x60 from rfl) rfl) (zLo_60 1184 _)
theorem dL_law_1185 : decode cL_law 1185 = .ok (.iaload, 1) := dec_of (s' := 1186) (at_of zLd_37 (show zLb_37[1]? = some 0x2e from rfl) rfl) (zLo_2e 1185 _)
theorem dL_law_1186 : decode cL_law 1186 = .ok (.aload_n 0, 1) := dec_of (s' := 1187) (at_of zLd_37 (show zLb_37[2]? = some 0x2a from rfl) rfl) (zLo_2a 1186 _)
theorem dL_law_1187 : decode cL_law 1187 = .ok (.iload 4, 2) := dec_u1 (g := fun n => .iload n) (at_of zLd_37 (show zLb_37[3]? = some 0x15 from rfl) rfl) (at_of zLd_37 (show zLb_37[4]? = some 0x04 from rfl) rfl) (zLo_15 1187)
theorem dL_law_1189 : decode cL_law 1189 = .ok (.iconst 2, 1) := dec_of (s' := 1190) (at_of zLd_37 (show zLb_37[5]? = some 0x05 from rfl) rfl) (zLo_05 1189 _)
theorem dL_law_1190 : decode cL_law 1190 = .ok (.iadd, 1) := dec_of (s' := 1191) (at_of zLd_37 (show zLb_37[6]? = some 0x60 from rfl) rfl) (zLo_60 1190 _)
theorem dL_law_1191 : decode cL_law 1191 = .ok (.iaload, 1) := dec_of (s' := 1192) (at_of zLd_37 (show zLb_37[7]? = some 0x2e from rfl) rfl) (zLo_2e 1191 _)
theorem dL_law_1192 : decode cL_law 1192 = .ok (.invokevirtual 134, 3) := dec_u2 (g := fun n => .invokevirtual n) (at_of zLd_37 (show zLb_37[8]? = some 0xb6 from rfl) rfl) (at_of zLd_37 (show zLb_37[9]? = some 0x00 from rfl) rfl) (at_of zLd_37 (show zLb_37[10]? = some 0x86 from rfl) rfl) (zLo_b6 1192)
theorem dL_law_1195 : decode cL_law 1195 = .ok (.pop, 1) := dec_of (s' := 1196) (at_of zLd_37 (show zLb_37[11]? = some 0x57 from rfl) rfl) (zLo_57 1195 _)
theorem dL_law_1196 : decode cL_law 1196 = .ok (.goto 501, 3) := by decide +kernel
theorem dL_law_1199 : decode cL_law 1199 = .ok (.aload_n 1, 1) := dec_of (s' := 1200) (at_of zLd_37 (show zLb_37[15]? = some 0x2b from rfl) rfl) (zLo_2b 1199 _)
theorem dL_law_1200 : decode cL_law 1200 = .ok (.aload_n 0, 1) := dec_of (s' := 1201) (at_of zLd_37 (show zLb_37[16]? = some 0x2a from rfl) rfl) (zLo_2a 1200 _)
theorem dL_law_1201 : decode cL_law 1201 = .ok (.iload 4, 2) := dec_u1 (g := fun n => .iload n) (at_of zLd_37 (show zLb_37[17]? = some 0x15 from rfl) rfl) (at_of zLd_37 (show zLb_37[18]? = some 0x04 from rfl) rfl) (zLo_15 1201)
theorem dL_law_1203 : decode cL_law 1203 = .ok (.iconst 1, 1) := dec_of (s' := 1204) (at_of zLd_37 (show zLb_37[19]? = some 0x04 from rfl) rfl) (zLo_04 1203 _)
theorem dL_law_1204 : decode cL_law 1204 = .ok (.iadd, 1) := dec_of (s' := 1205) (at_of zLd_37 (show zLb_37[20]? = some 0x60 from rfl) rfl) (zLo_60 1204 _)
theorem dL_law_1205 : decode cL_law 1205 = .ok (.iaload, 1) := dec_of (s' := 1206) (at_of zLd_37 (show zLb_37[21]? = some 0x2e from rfl) rfl) (zLo_2e 1205 _)
theorem dL_law_1206 : decode cL_law 1206 = .ok (.aload_n 0, 1) := dec_of (s' := 1207) (at_of zLd_37 (show zLb_37[22]? = some 0x2a from rfl) rfl) (zLo_2a 1206 _)
theorem dL_law_1207 : decode cL_law 1207 = .ok (.iload 4, 2) := dec_u1 (g := fun n => .iload n) (at_of zLd_37 (show zLb_37[23]? = some 0x15 from rfl) rfl) (at_of zLd_37 (show zLb_37[24]? = some 0x04 from rfl) rfl) (zLo_15 1207)
theorem dL_law_1209 : decode cL_law 1209 = .ok (.iconst 2, 1) := dec_of (s' := 1210) (at_of zLd_37 (show zLb_37[25]? = some 0x05 from rfl) rfl) (zLo_05 1209 _)
theorem dL_law_1210 : decode cL_law 1210 = .ok (.iadd, 1) := dec_of (s' := 1211) (at_of zLd_37 (show zLb_37[26]? = some 0x60 from rfl) rfl) (zLo_60 1210 _)
theorem dL_law_1211 : decode cL_law 1211 = .ok (.iaload, 1) := dec_of (s' := 1212) (at_of zLd_37 (show zLb_37[27]? = some 0x2e from rfl) rfl) (zLo_2e 1211 _)
theorem dL_law_1212 : decode cL_law 1212 = .ok (.invokevirtual 135, 3) := dec_u2 (g := fun n => .invokevirtual n) (at_of zLd_37 (show zLb_37[28]? = some 0xb6 from rfl) rfl) (at_of zLd_37 (show zLb_37[29]? = some 0x00 from rfl) rfl) (at_of zLd_37 (show zLb_37[30]? = some 0x87 from rfl) rfl) (zLo_b6 1212)
theorem dL_law_1215 : decode cL_law 1215 = .ok (.pop, 1) := dec_of (s' := 1216) (at_of zLd_37 (show zLb_37[31]? = some 0x57 from rfl) rfl) (zLo_57 1215 _)
theorem dL_law_1216 : decode cL_law 1216 = .ok (.aload_n 2, 1) := dec_of (s' := 1217) (at_of zLd_38 (show zLb_38[0]? = some 0x2c from rfl) rfl) (zLo_2c 1216 _)
theorem dL_law_1217 : decode cL_law 1217 = .ok (.aload_n 0, 1) := dec_of (s' := 1218) (at_of zLd_38 (show zLb_38[1]? = some 0x2a from rfl) rfl) (zLo_2a 1217 _)
theorem dL_law_1218 : decode cL_law 1218 = .ok (.iload 4, 2) := dec_u1 (g := fun n => .iload n) (at_of zLd_38 (show zLb_38[2]? = some 0x15 from rfl) rfl) (at_of zLd_38 (show zLb_38[3]? = some 0x04 from rfl) rfl) (zLo_15 1218)
theorem dL_law_1220 : decode cL_law 1220 = .ok (.iconst 1, 1) := dec_of (s' := 1221) (at_of zLd_38 (show zLb_38[4]? = some 0x04 from rfl) rfl) (zLo_04 1220 _)
theorem dL_law_1221 : decode cL_law 1221 = .ok (.iadd, 1) := dec_of (s' := 1222) (at_of zLd_38 (show zLb_38[5]? = some 0x60 from rfl) rfl) (zLo_60 1221 _)
theorem dL_law_1222 : decode cL_law 1222 = .ok (.iaload, 1) := dec_of (s' := 1223) (at_of zLd_38 (show zLb_38[6]? = some 0x2e from rfl) rfl) (zLo_2e 1222 _)
theorem dL_law_1223 : decode cL_law 1223 = .ok (.aload_n 0, 1) := dec_of (s' := 1224) (at_of zLd_38 (show zLb_38[7]? = some 0x2a from rfl) rfl) (zLo_2a 1223 _)
theorem dL_law_1224 : decode cL_law 1224 = .ok (.iload 4, 2) := dec_u1 (g := fun n => .iload n) (at_of zLd_38 (show zLb_38[8]? = some 0x15 from rfl) rfl) (at_of zLd_38 (show zLb_38[9]? = some 0x04 from rfl) rfl) (zLo_15 1224)
theorem dL_law_1226 : decode cL_law 1226 = .ok (.iconst 2, 1) := dec_of (s' := 1227) (at_of zLd_38 (show zLb_38[10]? = some 0x05 from rfl) rfl) (zLo_05 1226 _)
theorem dL_law_1227 : decode cL_law 1227 = .ok (.iadd, 1) := dec_of (s' := 1228) (at_of zLd_38 (show zLb_38[11]? = some 0x60 from rfl) rfl) (zLo_60 1227 _)
theorem dL_law_1228 : decode cL_law 1228 = .ok (.iaload, 1) := dec_of (s' := 1229) (at_of zLd_38 (show zLb_38[12]? = some 0x2e from rfl) rfl) (zLo_2e 1228 _)
theorem dL_law_1229 : decode cL_law 1229 = .ok (.invokevirtual 138, 3) := dec_u2 (g := fun n => .invokevirtual n) (at_of zLd_38 (show zLb_38[13]? = some 0xb6 from rfl) rfl) (at_of zLd_38 (show zLb_38[14]? = some 0x00 from rfl) rfl) (at_of zLd_38 (show zLb_38[15]? = some 0x8a from rfl) rfl) (zLo_b6 1229)
theorem dL_law_1232 : decode cL_law 1232 = .ok (.pop, 1) := dec_of (s' := 1233) (at_of zLd_38 (show zLb_38[16]? = some 0x57 from rfl) rfl) (zLo_57 1232 _)
theorem dL_law_1233 : decode cL_law 1233 = .ok (.goto 464, 3) := by decide +kernel
theorem dL_law_1236 : decode cL_law 1236 = .ok (.aload_n 1, 1) := dec_of (s' := 1237) (at_of zLd_38 (show zLb_38[20]? = some 0x2b from rfl) rfl) (zLo_2b 1236 _)
theorem dL_law_1237 : decode cL_law 1237 = .ok (.aload_n 0, 1) := dec_of (s' := 1238) (at_of zLd_38 (show zLb_38[21]? = some 0x2a from rfl) rfl) (zLo_2a 1237 _)
theorem dL_law_1238 : decode cL_law 1238 = .ok (.iload 4, 2) := dec_u1 (g := fun n => .iload n) (at_of zLd_38 (show zLb_38[22]? = some 0x15 from rfl) rfl) (at_of zLd_38 (show zLb_38[23]? = some 0x04 from rfl) rfl) (zLo_15 1238)
theorem dL_law_1240 : decode cL_law 1240 = .ok (.iconst 1, 1) := dec_of (s' := 1241) (at_of zLd_38 (show zLb_38[24]? = some 0x04 from rfl) rfl) (zLo_04 1240 _)
theorem dL_law_1241 : decode cL_law 1241 = .ok (.iadd, 1) := dec_of (s' := 1242) (at_of zLd_38 (show zLb_38[25]? = some 0x60 from rfl) rfl) (zLo_60 1241 _)
theorem dL_law_1242 : decode cL_law 1242 = .ok (.iaload, 1) := dec_of (s' := 1243) (at_of zLd_38 (show zLb_38[26]? = some 0x2e from rfl) rfl) (zLo_2e 1242 _)
theorem dL_law_1243 : decode cL_law 1243 = .ok (.aload_n 0, 1) := dec_of (s' := 1244) (at_of zLd_38 (show zLb_38[27]? = some 0x2a from rfl) rfl) (zLo_2a 1243 _)
theorem dL_law_1244 : decode cL_law 1244 = .ok (.iload 4, 2) := dec_u1 (g := fun n => .iload n) (at_of zLd_38 (show zLb_38[28]? = some 0x15 from rfl) rfl) (at_of zLd_38 (show zLb_38[29]? = some 0x04 from rfl) rfl) (zLo_15 1244)
theorem dL_law_1246 : decode cL_law 1246 = .ok (.iconst 2, 1) := dec_of (s' := 1247) (at_of zLd_38 (show zLb_38[30]? = some 0x05 from rfl) rfl) (zLo_05 1246 _)
theorem dL_law_1247 : decode cL_law 1247 = .ok (.iadd, 1) := dec_of (s' := 1248) (at_of zLd_38 (show zLb_38[31]? = some 0x60 from rfl) rfl) (zLo_60 1247 _)
theorem dL_law_1248 : decode cL_law 1248 = .ok (.iaload, 1) := dec_of (s' := 1249) (at_of zLd_39 (show zLb_39[0]? = some 0x2e from rfl) rfl) (zLo_2e 1248 _)
theorem dL_law_1249 : decode cL_law 1249 = .ok (.aload_n 0, 1) := dec_of (s' := 1250) (at_of zLd_39 (show zLb_39[1]? = some 0x2a from rfl) rfl) (zLo_2a 1249 _)
theorem dL_law_1250 : decode cL_law 1250 = .ok (.iload 4, 2) := dec_u1 (g := fun n => .iload n) (at_of zLd_39 (show zLb_39[2]? = some 0x15 from rfl) rfl) (at_of zLd_39 (show zLb_39[3]? = some 0x04 from rfl) rfl) (zLo_15 1250)
theorem dL_law_1252 : decode cL_law 1252 = .ok (.iconst 3, 1) := dec_of (s' := 1253) (at_of zLd_39 (show zLb_39[4]? = some 0x06 from rfl) rfl) (zLo_06 1252 _)
theorem dL_law_1253 : decode cL_law 1253 = .ok (.iadd, 1) := dec_of (s' := 1254) (at_of zLd_39 (show zLb_39[5]? = some 0x60 from rfl) rfl) (zLo_60 1253 _)
theorem dL_law_1254 : decode cL_law 1254 = .ok (.iaload, 1) := dec_of (s' := 1255) (at_of zLd_39 (show zLb_39[6]? = some 0x2e from rfl) rfl) (zLo_2e 1254 _)
theorem dL_law_1255 : decode cL_law 1255 = .ok (.invokevirtual 139, 3) := dec_u2 (g := fun n => .invokevirtual n) (at_of zLd_39 (show zLb_39[7]? = some 0xb6 from rfl) rfl) (at_of zLd_39 (show zLb_39[8]? = some 0x00 from rfl) rfl) (at_of zLd_39 (show zLb_39[9]? = some 0x8b from rfl) rfl) (zLo_b6 1255)
theorem dL_law_1258 : decode cL_law 1258 = .ok (.pop, 1) := dec_of (s' := 1259) (at_of zLd_39 (show zLb_39[10]? = some 0x57 from rfl) rfl) (zLo_57 1258 _)
theorem dL_law_1259 : decode cL_law 1259 = .ok (.aload_n 2, 1) := dec_of (s' := 1260) (at_of zLd_39 (show zLb_39[11]? = some 0x2c from rfl) rfl) (zLo_2c 1259 _)
theorem dL_law_1260 : decode cL_law 1260 = .ok (.aload_n 0, 1) := dec_of (s' := 1261) (at_of zLd_39 (show zLb_39[12]? = some 0x2a from rfl) rfl) (zLo_2a 1260 _)
theorem dL_law_1261 : decode cL_law 1261 = .ok (.iload 4, 2) := dec_u1 (g := fun n => .iload n) (at_of zLd_39 (show zLb_39[13]? = some 0x15 from rfl) rfl) (at_of zLd_39 (show zLb_39[14]? = some 0x04 from rfl) rfl) (zLo_15 1261)
theorem dL_law_1263 : decode cL_law 1263 = .ok (.iconst 1, 1) := dec_of (s' := 1264) (at_of zLd_39 (show zLb_39[15]? = some 0x04 from rfl) rfl) (zLo_04 1263 _)
theorem dL_law_1264 : decode cL_law 1264 = .ok (.iadd, 1) := dec_of (s' := 1265) (at_of zLd_39 (show zLb_39[16]? = some 0x60 from rfl) rfl) (zLo_60 1264 _)
theorem dL_law_1265 : decode cL_law 1265 = .ok (.iaload, 1) := dec_of (s' := 1266) (at_of zLd_39 (show zLb_39[17]? = some 0x2e from rfl) rfl) (zLo_2e 1265 _)
theorem dL_law_1266 : decode cL_law 1266 = .ok (.aload_n 0, 1) := dec_of (s' := 1267) (at_of zLd_39 (show zLb_39[18]? = some 0x2a from rfl) rfl) (zLo_2a 1266 _)
theorem dL_law_1267 : decode cL_law 1267 = .ok (.iload 4, 2) := dec_u1 (g := fun n => .iload n) (at_of zLd_39 (show zLb_39[19]? = some 0x15 from rfl) rfl) (at_of zLd_39 (show zLb_39[20]? = some 0x04 from rfl) rfl) (zLo_15 1267)
theorem dL_law_1269 : decode cL_law 1269 = .ok (.iconst 2, 1) := dec_of (s' := 1270) (at_of zLd_39 (show zLb_39[21]? = some 0x05 from rfl) rfl) (zLo_05 1269 _)
theorem dL_law_1270 : decode cL_law 1270 = .ok (.iadd, 1) := dec_of (s' := 1271) (at_of zLd_39 (show zLb_39[22]? = some 0x60 from rfl) rfl) (zLo_60 1270 _)
theorem dL_law_1271 : decode cL_law 1271 = .ok (.iaload, 1) := dec_of (s' := 1272) (at_of zLd_39 (show zLb_39[23]? = some 0x2e from rfl) rfl) (zLo_2e 1271 _)
theorem dL_law_1272 : decode cL_law 1272 = .ok (.aload_n 0, 1) := dec_of (s' := 1273) (at_of zLd_39 (show zLb_39[24]? = some 0x2a from rfl) rfl) (zLo_2a 1272 _)
theorem dL_law_1273 : decode cL_law 1273 = .ok (.iload 4, 2) := dec_u1 (g := fun n => .iload n) (at_of zLd_39 (show zLb_39[25]? = some 0x15 from rfl) rfl) (at_of zLd_39 (show zLb_39[26]? = some 0x04 from rfl) rfl) (zLo_15 1273)
theorem dL_law_1275 : decode cL_law 1275 = .ok (.iconst 3, 1) := dec_of (s' := 1276) (at_of zLd_39 (show zLb_39[27]? = some 0x06 from rfl) rfl) (zLo_06 1275 _)
theorem dL_law_1276 : decode cL_law 1276 = .ok (.iadd, 1) := dec_of (s' := 1277) (at_of zLd_39 (show zLb_39[28]? = some 0x60 from rfl) rfl) (zLo_60 1276 _)
theorem dL_law_1277 : decode cL_law 1277 = .ok (.iaload, 1) := dec_of (s' := 1278) (at_of zLd_39 (show zLb_39[29]? = some 0x2e from rfl) rfl) (zLo_2e 1277 _)
theorem dL_law_1278 : decode cL_law 1278 = .ok (.invokevirtual 142, 3) := dec_u2 (g := fun n => .invokevirtual n) (at_of zLd_39 (show zLb_39[30]? = some 0xb6 from rfl) rfl) (at_of zLd_39 (show zLb_39[31]? = some 0x00 from rfl) rfl) (at_of zLd_40 (show zLb_40[0]? = some 0x8e from rfl) rfl) (zLo_b6 1278)
theorem dL_law_1281 : decode cL_law 1281 = .ok (.pop, 1) := dec_of (s' := 1282) (at_of zLd_40 (show zLb_40[1]? = some 0x57 from rfl) rfl) (zLo_57 1281 _)
theorem dL_law_1282 : decode cL_law 1282 = .ok (.goto 415, 3) := by decide +kernel
theorem dL_law_1285 : decode cL_law 1285 = .ok (.aload_n 1, 1) := dec_of (s' := 1286) (at_of zLd_40 (show zLb_40[5]? = some 0x2b from rfl) rfl) (zLo_2b 1285 _)
theorem dL_law_1286 : decode cL_law 1286 = .ok (.aload_n 0, 1) := dec_of (s' := 1287) (at_of zLd_40 (show zLb_40[6]? = some 0x2a from rfl) rfl) (zLo_2a 1286 _)
theorem dL_law_1287 : decode cL_law 1287 = .ok (.iload 4, 2) := dec_u1 (g := fun n => .iload n) (at_of zLd_40 (show zLb_40[7]? = some 0x15 from rfl) rfl) (at_of zLd_40 (show zLb_40[8]? = some 0x04 from rfl) rfl) (zLo_15 1287)
theorem dL_law_1289 : decode cL_law 1289 = .ok (.iconst 1, 1) := dec_of (s' := 1290) (at_of zLd_40 (show zLb_40[9]? = some 0x04 from rfl) rfl) (zLo_04 1289 _)
theorem dL_law_1290 : decode cL_law 1290 = .ok (.iadd, 1) := dec_of (s' := 1291) (at_of zLd_40 (show zLb_40[10]? = some 0x60 from rfl) rfl) (zLo_60 1290 _)
theorem dL_law_1291 : decode cL_law 1291 = .ok (.iaload, 1) := dec_of (s' := 1292) (at_of zLd_40 (show zLb_40[11]? = some 0x2e from rfl) rfl) (zLo_2e 1291 _)
theorem dL_law_1292 : decode cL_law 1292 = .ok (.aload_n 0, 1) := dec_of (s' := 1293) (at_of zLd_40 (show zLb_40[12]? = some 0x2a from rfl) rfl) (zLo_2a 1292 _)
theorem dL_law_1293 : decode cL_law 1293 = .ok (.iload 4, 2) := dec_u1 (g := fun n => .iload n) (at_of zLd_40 (show zLb_40[13]? = some 0x15 from rfl) rfl) (at_of zLd_40 (show zLb_40[14]? = some 0x04 from rfl) rfl) (zLo_15 1293)
theorem dL_law_1295 : decode cL_law 1295 = .ok (.iconst 2, 1) := dec_of (s' := 1296) (at_of zLd_40 (show zLb_40[15]? = some 0x05 from rfl) rfl) (zLo_05 1295 _)
theorem dL_law_1296 : decode cL_law 1296 = .ok (.iadd, 1) := dec_of (s' := 1297) (at_of zLd_40 (show zLb_40[16]? = some 0x60 from rfl) rfl) (zLo_60 1296 _)
theorem dL_law_1297 : decode cL_law 1297 = .ok (.iaload, 1) := dec_of (s' := 1298) (at_of zLd_40 (show zLb_40[17]? = some 0x2e from rfl) rfl) (zLo_2e 1297 _)
theorem dL_law_1298 : decode cL_law 1298 = .ok (.invokevirtual 143, 3) := dec_u2 (g := fun n => .invokevirtual n) (at_of zLd_40 (show zLb_40[18]? = some 0xb6 from rfl) rfl) (at_of zLd_40 (show zLb_40[19]? = some 0x00 from rfl) rfl) (at_of zLd_40 (show zLb_40[20]? = some 0x8f from rfl) rfl) (zLo_b6 1298)
theorem dL_law_1301 : decode cL_law 1301 = .ok (.pop, 1) := dec_of (s' := 1302) (at_of zLd_40 (show zLb_40[21]? = some 0x57 from rfl) rfl) (zLo_57 1301 _)
theorem dL_law_1302 : decode cL_law 1302 = .ok (.aload_n 2, 1) := dec_of (s' := 1303) (at_of zLd_40 (show zLb_40[22]? = some 0x2c from rfl) rfl) (zLo_2c 1302 _)
theorem dL_law_1303 : decode cL_law 1303 = .ok (.aload_n 0, 1) := dec_of (s' := 1304) (at_of zLd_40 (show zLb_40[23]? = some 0x2a from rfl) rfl) (zLo_2a 1303 _)
theorem dL_law_1304 : decode cL_law 1304 = .ok (.iload 4, 2) := dec_u1 (g := fun n => .iload n) (at_of zLd_40 (show zLb_40[24]? = some 0x15 from rfl) rfl) (at_of zLd_40 (show zLb_40[25]? = some 0x04 from rfl) rfl) (zLo_15 1304)
theorem dL_law_1306 : decode cL_law 1306 = .ok (.iconst 1, 1) := dec_of (s' := 1307) (at_of zLd_40 (show zLb_40[26]? = some 0x04 from rfl) rfl) (zLo_04 1306 _)
theorem dL_law_1307 : decode cL_law 1307 = .ok (.iadd, 1) := dec_of (s' := 1308) (at_of zLd_40 (show zLb_40[27]? = some 0x60 from rfl) rfl) (zLo_60 1307 _)
theorem dL_law_1308 : decode cL_law 1308 = .ok (.iaload, 1) := dec_of (s' := 1309) (at_of zLd_40 (show zLb_40[28]? = some 0x2e from rfl) rfl) (zLo_2e 1308 _)
theorem dL_law_1309 : decode cL_law 1309 = .ok (.aload_n 0, 1) := dec_of (s' := 1310) (at_of zLd_40 (show zLb_40[29]? = some 0x2a from rfl) rfl) (zLo_2a 1309 _)
theorem dL_law_1310 : decode cL_law 1310 = .ok (.iload 4, 2) := dec_u1 (g := fun n => .iload n) (at_of zLd_40 (show zLb_40[30]? = some 0x15 from rfl) rfl) (at_of zLd_40 (show zLb_40[31]? = some 0x04 from rfl) rfl) (zLo_15 1310)
theorem dL_law_1312 : decode cL_law 1312 = .ok (.iconst 2, 1) := dec_of (s' := 1313) (at_of zLd_41 (show zLb_41[0]? = some 0x05 from rfl) rfl) (zLo_05 1312 _)
theorem dL_law_1313 : decode cL_law 1313 = .ok (.iadd, 1) := dec_of (s' := 1314) (at_of zLd_41 (show zLb_41[1]? = some 0x60 from rfl) rfl) (zLo_60 1313 _)
theorem dL_law_1314 : decode cL_law 1314 = .ok (.iaload, 1) := dec_of (s' := 1315) (at_of zLd_41 (show zLb_41[2]? = some 0x2e from rfl) rfl) (zLo_2e 1314 _)
theorem dL_law_1315 : decode cL_law 1315 = .ok (.invokevirtual 146, 3) := dec_u2 (g := fun n => .invokevirtual n) (at_of zLd_41 (show zLb_41[3]? = some 0xb6 from rfl) rfl) (at_of zLd_41 (show zLb_41[4]? = some 0x00 from rfl) rfl) (at_of zLd_41 (show zLb_41[5]? = some 0x92 from rfl) rfl) (zLo_b6 1315)
theorem dL_law_1318 : decode cL_law 1318 = .ok (.pop, 1) := dec_of (s' := 1319) (at_of zLd_41 (show zLb_41[6]? = some 0x57 from rfl) rfl) (zLo_57 1318 _)
theorem dL_law_1319 : decode cL_law 1319 = .ok (.goto 378, 3) := by decide +kernel
theorem dL_law_1322 : decode cL_law 1322 = .ok (.aload_n 1, 1) := dec_of (s' := 1323) (at_of zLd_41 (show zLb_41[10]? = some 0x2b from rfl) rfl) (zLo_2b 1322 _)
theorem dL_law_1323 : decode cL_law 1323 = .ok (.aload_n 0, 1) := dec_of (s' := 1324) (at_of zLd_41 (show zLb_41[11]? = some 0x2a from rfl) rfl) (zLo_2a 1323 _)
theorem dL_law_1324 : decode cL_law 1324 = .ok (.iload 4, 2) := dec_u1 (g := fun n => .iload n) (at_of zLd_41 (show zLb_41[12]? = some 0x15 from rfl) rfl) (at_of zLd_41 (show zLb_41[13]? = some 0x04 from rfl) rfl) (zLo_15 1324)
theorem dL_law_1326 : decode cL_law 1326 = .ok (.iconst 1, 1) := dec_of (s' := 1327) (at_of zLd_41 (show zLb_41[14]? = some 0x04 from rfl) rfl) (zLo_04 1326 _)
theorem dL_law_1327 : decode cL_law 1327 = .ok (.iadd, 1) := dec_of (s' := 1328) (at_of zLd_41 (show zLb_41[15]? = some 0x60 from rfl) rfl) (zLo_60 1327 _)
theorem dL_law_1328 : decode cL_law 1328 = .ok (.iaload, 1) := dec_of (s' := 1329) (at_of zLd_41 (show zLb_41[16]? = some 0x2e from rfl) rfl) (zLo_2e 1328 _)
theorem dL_law_1329 : decode cL_law 1329 = .ok (.aload_n 0, 1) := dec_of (s' := 1330) (at_of zLd_41 (show zLb_41[17]? = some 0x2a from rfl) rfl) (zLo_2a 1329 _)
theorem dL_law_1330 : decode cL_law 1330 = .ok (.iload 4, 2) := dec_u1 (g := fun n => .iload n) (at_of zLd_41 (show zLb_41[18]? = some 0x15 from rfl) rfl) (at_of zLd_41 (show zLb_41[19]? = some 0x04 from rfl) rfl) (zLo_15 1330)
theorem dL_law_1332 : decode cL_law 1332 = .ok (.iconst 2, 1) := dec_of (s' := 1333) (at_of zLd_41 (show zLb_41[20]? = some 0x05 from rfl) rfl) (zLo_05 1332 _)
theorem dL_law_1333 : decode cL_law 1333 = .ok (.iadd, 1) := dec_of (s' := 1334) (at_of zLd_41 (show zLb_41[21]? = some 0x60 from rfl) rfl) (zLo_60 1333 _)
theorem dL_law_1334 : decode cL_law 1334 = .ok (.iaload, 1) := dec_of (s' := 1335) (at_of zLd_41 (show zLb_41[22]? = some 0x2e from rfl) rfl) (zLo_2e 1334 _)
theorem dL_law_1335 : decode cL_law 1335 = .ok (.aload_n 0, 1) := dec_of (s' := 1336) (at_of zLd_41 (show zLb_41[23]? = some 0x2a from rfl) rfl) (zLo_2a 1335 _)
theorem dL_law_1336 : decode cL_law 1336 = .ok (.iload 4, 2) := dec_u1 (g := fun n => .iload n) (at_of zLd_41 (show zLb_41[24]? = some 0x15 from rfl) rfl) (at_of zLd_41 (show zLb_41[25]? = some 0x04 from rfl) rfl) (zLo_15 1336)
theorem dL_law_1338 : decode cL_law 1338 = .ok (.iconst 3, 1) := dec_of (s' := 1339) (at_of zLd_41 (show zLb_41[26]? = some 0x06 from rfl) rfl) (zLo_06 1338 _)
theorem dL_law_1339 : decode cL_law 1339 = .ok (.iadd, 1) := dec_of (s' := 1340) (at_of zLd_41 (show zLb_41[27]? = some 0x60 from rfl) rfl) (zLo_60 1339 _)
theorem dL_law_1340 : decode cL_law 1340 = .ok (.iaload, 1) := dec_of (s' := 1341) (at_of zLd_41 (show zLb_41[28]? = some 0x2e from rfl) rfl) (zLo_2e 1340 _)
theorem dL_law_1341 : decode cL_law 1341 = .ok (.aload_n 0, 1) := dec_of (s' := 1342) (at_of zLd_41 (show zLb_41[29]? = some 0x2a from rfl) rfl) (zLo_2a 1341 _)
theorem dL_law_1342 : decode cL_law 1342 = .ok (.iload 4, 2) := dec_u1 (g := fun n => .iload n) (at_of zLd_41 (show zLb_41[30]? = some 0x15 from rfl) rfl) (at_of zLd_41 (show zLb_41[31]? = some 0x04 from rfl) rfl) (zLo_15 1342)
theorem dL_law_1344 : decode cL_law 1344 = .ok (.iconst 4, 1) := dec_of (s' := 1345) (at_of zLd_42 (show zLb_42[0]? = some 0x07 from rfl) rfl) (zLo_07 1344 _)
theorem dL_law_1345 : decode cL_law 1345 = .ok (.iadd, 1) := dec_of (s' := 1346) (at_of zLd_42 (show zLb_42[1]? = some 0x60 from rfl) rfl) (zLo_60 1345 _)
theorem dL_law_1346 : decode cL_law 1346 = .ok (.iaload, 1) := dec_of (s' := 1347) (at_of zLd_42 (show zLb_42[2]? = some 0x2e from rfl) rfl) (zLo_2e 1346 _)
theorem dL_law_1347 : decode cL_law 1347 = .ok (.aload_n 0, 1) := dec_of (s' := 1348) (at_of zLd_42 (show zLb_42[3]? = some 0x2a from rfl) rfl) (zLo_2a 1347 _)
theorem dL_law_1348 : decode cL_law 1348 = .ok (.iload 4, 2) := dec_u1 (g := fun n => .iload n) (at_of zLd_42 (show zLb_42[4]? = some 0x15 from rfl) rfl) (at_of zLd_42 (show zLb_42[5]? = some 0x04 from rfl) rfl) (zLo_15 1348)
theorem dL_law_1350 : decode cL_law 1350 = .ok (.iconst 5, 1) := dec_of (s' := 1351) (at_of zLd_42 (show zLb_42[6]? = some 0x08 from rfl) rfl) (zLo_08 1350 _)
theorem dL_law_1351 : decode cL_law 1351 = .ok (.iadd, 1) := dec_of (s' := 1352) (at_of zLd_42 (show zLb_42[7]? = some 0x60 from rfl) rfl) (zLo_60 1351 _)
theorem dL_law_1352 : decode cL_law 1352 = .ok (.iaload, 1) := dec_of (s' := 1353) (at_of zLd_42 (show zLb_42[8]? = some 0x2e from rfl) rfl) (zLo_2e 1352 _)
theorem dL_law_1353 : decode cL_law 1353 = .ok (.aload_n 0, 1) := dec_of (s' := 1354) (at_of zLd_42 (show zLb_42[9]? = some 0x2a from rfl) rfl) (zLo_2a 1353 _)
theorem dL_law_1354 : decode cL_law 1354 = .ok (.iload 4, 2) := dec_u1 (g := fun n => .iload n) (at_of zLd_42 (show zLb_42[10]? = some 0x15 from rfl) rfl) (at_of zLd_42 (show zLb_42[11]? = some 0x04 from rfl) rfl) (zLo_15 1354)
theorem dL_law_1356 : decode cL_law 1356 = .ok (.bipush 6, 2) := by decide +kernel
theorem dL_law_1358 : decode cL_law 1358 = .ok (.iadd, 1) := dec_of (s' := 1359) (at_of zLd_42 (show zLb_42[14]? = some 0x60 from rfl) rfl) (zLo_60 1358 _)
theorem dL_law_1359 : decode cL_law 1359 = .ok (.iaload, 1) := dec_of (s' := 1360) (at_of zLd_42 (show zLb_42[15]? = some 0x2e from rfl) rfl) (zLo_2e 1359 _)
theorem dL_law_1360 : decode cL_law 1360 = .ok (.invokevirtual 147, 3) := dec_u2 (g := fun n => .invokevirtual n) (at_of zLd_42 (show zLb_42[16]? = some 0xb6 from rfl) rfl) (at_of zLd_42 (show zLb_42[17]? = some 0x00 from rfl) rfl) (at_of zLd_42 (show zLb_42[18]? = some 0x93 from rfl) rfl) (zLo_b6 1360)
theorem dL_law_1363 : decode cL_law 1363 = .ok (.pop, 1) := dec_of (s' := 1364) (at_of zLd_42 (show zLb_42[19]? = some 0x57 from rfl) rfl) (zLo_57 1363 _)
theorem dL_law_1364 : decode cL_law 1364 = .ok (.aload_n 2, 1) := dec_of (s' := 1365) (at_of zLd_42 (show zLb_42[20]? = some 0x2c from rfl) rfl) (zLo_2c 1364 _)
theorem dL_law_1365 : decode cL_law 1365 = .ok (.aload_n 0, 1) := dec_of (s' := 1366) (at_of zLd_42 (show zLb_42[21]? = some 0x2a from rfl) rfl) (zLo_2a 1365 _)
theorem dL_law_1366 : decode cL_law 1366 = .ok (.iload 4, 2) := dec_u1 (g := fun n => .iload n) (at_of zLd_42 (show zLb_42[22]? = some 0x15 from rfl) rfl) (at_of zLd_42 (show zLb_42[23]? = some 0x04 from rfl) rfl) (zLo_15 1366)
theorem dL_law_1368 : decode cL_law 1368 = .ok (.iconst 1, 1) := dec_of (s' := 1369) (at_of zLd_42 (show zLb_42[24]? = some 0x04 from rfl) rfl) (zLo_04 1368 _)
theorem dL_law_1369 : decode cL_law 1369 = .ok (.iadd, 1) := dec_of (s' := 1370) (at_of zLd_42 (show zLb_42[25]? = some 0x60 from rfl) rfl) (zLo_60 1369 _)
theorem dL_law_1370 : decode cL_law 1370 = .ok (.iaload, 1) := dec_of (s' := 1371) (at_of zLd_42 (show zLb_42[26]? = some 0x2e from rfl) rfl) (zLo_2e 1370 _)
theorem dL_law_1371 : decode cL_law 1371 = .ok (.aload_n 0, 1) := dec_of (s' := 1372) (at_of zLd_42 (show zLb_42[27]? = some 0x2a from rfl) rfl) (zLo_2a 1371 _)
theorem dL_law_1372 : decode cL_law 1372 = .ok (.iload 4, 2) := dec_u1 (g := fun n => .iload n) (at_of zLd_42 (show zLb_42[28]? = some 0x15 from rfl) rfl) (at_of zLd_42 (show zLb_42[29]? = some 0x04 from rfl) rfl) (zLo_15 1372)
theorem dL_law_1374 : decode cL_law 1374 = .ok (.iconst 2, 1) := dec_of (s' := 1375) (at_of zLd_42 (show zLb_42[30]? = some 0x05 from rfl) rfl) (zLo_05 1374 _)
theorem dL_law_1375 : decode cL_law 1375 = .ok (.iadd, 1) := dec_of (s' := 1376) (at_of zLd_42 (show zLb_42[31]? = some 0x60 from rfl) rfl) (zLo_60 1375 _)
theorem dL_law_1376 : decode cL_law 1376 = .ok (.iaload, 1) := dec_of (s' := 1377) (at_of zLd_43 (show zLb_43[0]? = some 0x2e from rfl) rfl) (zLo_2e 1376 _)
theorem dL_law_1377 : decode cL_law 1377 = .ok (.aload_n 0, 1) := dec_of (s' := 1378) (at_of zLd_43 (show zLb_43[1]? = some 0x2a from rfl) rfl) (zLo_2a 1377 _)
theorem dL_law_1378 : decode cL_law 1378 = .ok (.iload 4, 2) := dec_u1 (g := fun n => .iload n) (at_of zLd_43 (show zLb_43[2]? = some 0x15 from rfl) rfl) (at_of zLd_43 (show zLb_43[3]? = some 0x04 from rfl) rfl) (zLo_15 1378)
theorem dL_law_1380 : decode cL_law 1380 = .ok (.iconst 3, 1) := dec_of (s' := 1381) (at_of zLd_43 (show zLb_43[4]? = some 0x06 from rfl) rfl) (zLo_06 1380 _)
theorem dL_law_1381 : decode cL_law 1381 = .ok (.iadd, 1) := dec_of (s' := 1382) (at_of zLd_43 (show zLb_43[5]? = some 0x60 from rfl) rfl) (zLo_60 1381 _)
theorem dL_law_1382 : decode cL_law 1382 = .ok (.iaload, 1) := dec_of (s' := 1383) (at_of zLd_43 (show zLb_43[6]? = some 0x2e from rfl) rfl) (zLo_2e 1382 _)
theorem dL_law_1383 : decode cL_law 1383 = .ok (.aload_n 0, 1) := dec_of (s' := 1384) (at_of zLd_43 (show zLb_43[7]? = some 0x2a from rfl) rfl) (zLo_2a 1383 _)
theorem dL_law_1384 : decode cL_law 1384 = .ok (.iload 4, 2) := dec_u1 (g := fun n => .iload n) (at_of zLd_43 (show zLb_43[8]? = some 0x15 from rfl) rfl) (at_of zLd_43 (show zLb_43[9]? = some 0x04 from rfl) rfl) (zLo_15 1384)
theorem dL_law_1386 : decode cL_law 1386 = .ok (.iconst 4, 1) := dec_of (s' := 1387) (at_of zLd_43 (show zLb_43[10]? = some 0x07 from rfl) rfl) (zLo_07 1386 _)
theorem dL_law_1387 : decode cL_law 1387 = .ok (.iadd, 1) := dec_of (s' := 1388) (at_of zLd_43 (show zLb_43[11]? = some 0x60 from rfl) rfl) (zLo_60 1387 _)
theorem dL_law_1388 : decode cL_law 1388 = .ok (.iaload, 1) := dec_of (s' := 1389) (at_of zLd_43 (show zLb_43[12]? = some 0x2e from rfl) rfl) (zLo_2e 1388 _)
theorem dL_law_1389 : decode cL_law 1389 = .ok (.aload_n 0, 1) := dec_of (s' := 1390) (at_of zLd_43 (show zLb_43[13]? = some 0x2a from rfl) rfl) (zLo_2a 1389 _)
theorem dL_law_1390 : decode cL_law 1390 = .ok (.iload 4, 2) := dec_u1 (g := fun n => .iload n) (at_of zLd_43 (show zLb_43[14]? = some 0x15 from rfl) rfl) (at_of zLd_43 (show zLb_43[15]? = some 0x04 from rfl) rfl) (zLo_15 1390)
theorem dL_law_1392 : decode cL_law 1392 = .ok (.iconst 5, 1) := dec_of (s' := 1393) (at_of zLd_43 (show zLb_43[16]? = some 0x08 from rfl) rfl) (zLo_08 1392 _)
theorem dL_law_1393 : decode cL_law 1393 = .ok (.iadd, 1) := dec_of (s' := 1394) (at_of zLd_43 (show zLb_43[17]? = some 0x60 from rfl) rfl) (zLo_60 1393 _)
theorem dL_law_1394 : decode cL_law 1394 = .ok (.iaload, 1) := dec_of (s' := 1395) (at_of zLd_43 (show zLb_43[18]? = some 0x2e from rfl) rfl) (zLo_2e 1394 _)
theorem dL_law_1395 : decode cL_law 1395 = .ok (.aload_n 0, 1) := dec_of (s' := 1396) (at_of zLd_43 (show zLb_43[19]? = some 0x2a from rfl) rfl) (zLo_2a 1395 _)
theorem dL_law_1396 : decode cL_law 1396 = .ok (.iload 4, 2) := dec_u1 (g := fun n => .iload n) (at_of zLd_43 (show zLb_43[20]? = some 0x15 from rfl) rfl) (at_of zLd_43 (show zLb_43[21]? = some 0x04 from rfl) rfl) (zLo_15 1396)
theorem dL_law_1398 : decode cL_law 1398 = .ok (.bipush 6, 2) := by decide +kernel
theorem dL_law_1400 : decode cL_law 1400 = .ok (.iadd, 1) := dec_of (s' := 1401) (at_of zLd_43 (show zLb_43[24]? = some 0x60 from rfl) rfl) (zLo_60 1400 _)
theorem dL_law_1401 : decode cL_law 1401 = .ok (.iaload, 1) := dec_of (s' := 1402) (at_of zLd_43 (show zLb_43[25]? = some 0x2e from rfl) rfl) (zLo_2e 1401 _)
theorem dL_law_1402 : decode cL_law 1402 = .ok (.invokevirtual 151, 3) := dec_u2 (g := fun n => .invokevirtual n) (at_of zLd_43 (show zLb_43[26]? = some 0xb6 from rfl) rfl) (at_of zLd_43 (show zLb_43[27]? = some 0x00 from rfl) rfl) (at_of zLd_43 (show zLb_43[28]? = some 0x97 from rfl) rfl) (zLo_b6 1402)
theorem dL_law_1405 : decode cL_law 1405 = .ok (.pop, 1) := dec_of (s' := 1406) (at_of zLd_43 (show zLb_43[29]? = some 0x57 from rfl) rfl) (zLo_57 1405 _)
theorem dL_law_1406 : decode cL_law 1406 = .ok (.goto 291, 3) := by decide +kernel
theorem dL_law_1409 : decode cL_law 1409 = .ok (.aload_n 1, 1) := dec_of (s' := 1410) (at_of zLd_44 (show zLb_44[1]? = some 0x2b from rfl) rfl) (zLo_2b 1409 _)
theorem dL_law_1410 : decode cL_law 1410 = .ok (.aload_n 0, 1) := dec_of (s' := 1411) (at_of zLd_44 (show zLb_44[2]? = some 0x2a from rfl) rfl) (zLo_2a 1410 _)
theorem dL_law_1411 : decode cL_law 1411 = .ok (.iload 4, 2) := dec_u1 (g := fun n => .iload n) (at_of zLd_44 (show zLb_44[3]? = some 0x15 from rfl) rfl) (at_of zLd_44 (show zLb_44[4]? = some 0x04 from rfl) rfl) (zLo_15 1411)
theorem dL_law_1413 : decode cL_law 1413 = .ok (.iconst 1, 1) := dec_of (s' := 1414) (at_of zLd_44 (show zLb_44[5]? = some 0x04 from rfl) rfl) (zLo_04 1413 _)
theorem dL_law_1414 : decode cL_law 1414 = .ok (.iadd, 1) := dec_of (s' := 1415) (at_of zLd_44 (show zLb_44[6]? = some 0x60 from rfl) rfl) (zLo_60 1414 _)
theorem dL_law_1415 : decode cL_law 1415 = .ok (.iaload, 1) := dec_of (s' := 1416) (at_of zLd_44 (show zLb_44[7]? = some 0x2e from rfl) rfl) (zLo_2e 1415 _)
theorem dL_law_1416 : decode cL_law 1416 = .ok (.aload_n 0, 1) := dec_of (s' := 1417) (at_of zLd_44 (show zLb_44[8]? = some 0x2a from rfl) rfl) (zLo_2a 1416 _)
theorem dL_law_1417 : decode cL_law 1417 = .ok (.iload 4, 2) := dec_u1 (g := fun n => .iload n) (at_of zLd_44 (show zLb_44[9]? = some 0x15 from rfl) rfl) (at_of zLd_44 (show zLb_44[10]? = some 0x04 from rfl) rfl) (zLo_15 1417)
theorem dL_law_1419 : decode cL_law 1419 = .ok (.iconst 2, 1) := dec_of (s' := 1420) (at_of zLd_44 (show zLb_44[11]? = some 0x05 from rfl) rfl) (zLo_05 1419 _)
theorem dL_law_1420 : decode cL_law 1420 = .ok (.iadd, 1) := dec_of (s' := 1421) (at_of zLd_44 (show zLb_44[12]? = some 0x60 from rfl) rfl) (zLo_60 1420 _)
theorem dL_law_1421 : decode cL_law 1421 = .ok (.iaload, 1) := dec_of (s' := 1422) (at_of zLd_44 (show zLb_44[13]? = some 0x2e from rfl) rfl) (zLo_2e 1421 _)
theorem dL_law_1422 : decode cL_law 1422 = .ok (.aload_n 0, 1) := dec_of (s' := 1423) (at_of zLd_44 (show zLb_44[14]? = some 0x2a from rfl) rfl) (zLo_2a 1422 _)
theorem dL_law_1423 : decode cL_law 1423 = .ok (.iload 4, 2) := dec_u1 (g := fun n => .iload n) (at_of zLd_44 (show zLb_44[15]? = some 0x15 from rfl) rfl) (at_of zLd_44 (show zLb_44[16]? = some 0x04 from rfl) rfl) (zLo_15 1423)
theorem dL_law_1425 : decode cL_law 1425 = .ok (.iconst 3, 1) := dec_of (s' := 1426) (at_of zLd_44 (show zLb_44[17]? = some 0x06 from rfl) rfl) (zLo_06 1425 _)
theorem dL_law_1426 : decode cL_law 1426 = .ok (.iadd, 1) := dec_of (s' := 1427) (at_of zLd_44 (show zLb_44[18]? = some 0x60 from rfl) rfl) (zLo_60 1426 _)
theorem dL_law_1427 : decode cL_law 1427 = .ok (.iaload, 1) := dec_of (s' := 1428) (at_of zLd_44 (show zLb_44[19]? = some 0x2e from rfl) rfl) (zLo_2e 1427 _)
theorem dL_law_1428 : decode cL_law 1428 = .ok (.invokevirtual 152, 3) := dec_u2 (g := fun n => .invokevirtual n) (at_of zLd_44 (show zLb_44[20]? = some 0xb6 from rfl) rfl) (at_of zLd_44 (show zLb_44[21]? = some 0x00 from rfl) rfl) (at_of zLd_44 (show zLb_44[22]? = some 0x98 from rfl) rfl) (zLo_b6 1428)
theorem dL_law_1431 : decode cL_law 1431 = .ok (.pop, 1) := dec_of (s' := 1432) (at_of zLd_44 (show zLb_44[23]? = some 0x57 from rfl) rfl) (zLo_57 1431 _)
theorem dL_law_1432 : decode cL_law 1432 = .ok (.aload_n 2, 1) := dec_of (s' := 1433) (at_of zLd_44 (show zLb_44[24]? = some 0x2c from rfl) rfl) (zLo_2c 1432 _)
theorem dL_law_1433 : decode cL_law 1433 = .ok (.aload_n 0, 1) := dec_of (s' := 1434) (at_of zLd_44 (show zLb_44[25]? = some 0x2a from rfl) rfl) (zLo_2a 1433 _)
theorem dL_law_1434 : decode cL_law 1434 = .ok (.iload 4, 2) := dec_u1 (g := fun n => .iload n) (at_of zLd_44 (show zLb_44[26]? = some 0x15 from rfl) rfl) (at_of zLd_44 (show zLb_44[27]? = some 0x04 from rfl) rfl) (zLo_15 1434)
theorem dL_law_1436 : decode cL_law 1436 = .ok (.iconst 1, 1) := dec_of (s' := 1437) (at_of zLd_44 (show zLb_44[28]? = some 0x04 from rfl) rfl) (zLo_04 1436 _)
theorem dL_law_1437 : decode cL_law 1437 = .ok (.iadd, 1) := dec_of (s' := 1438) (at_of zLd_44 (show zLb_44[29]? = some 0x60 from rfl) rfl) (zLo_60 1437 _)
theorem dL_law_1438 : decode cL_law 1438 = .ok (.iaload, 1) := dec_of (s' := 1439) (at_of zLd_44 (show zLb_44[30]? = some 0x2e from rfl) rfl) (zLo_2e 1438 _)
theorem dL_law_1439 : decode cL_law 1439 = .ok (.aload_n 0, 1) := dec_of (s' := 1440) (at_of zLd_44 (show zLb_44[31]? = some 0x2a from rfl) rfl) (zLo_2a 1439 _)
theorem dL_law_1440 : decode cL_law 1440 = .ok (.iload 4, 2) := dec_u1 (g := fun n => .iload n) (at_of zLd_45 (show zLb_45[0]? = some 0x15 from rfl) rfl) (at_of zLd_45 (show zLb_45[1]? = some 0x04 from rfl) rfl) (zLo_15 1440)
theorem dL_law_1442 : decode cL_law 1442 = .ok (.iconst 2, 1) := dec_of (s' := 1443) (at_of zLd_45 (show zLb_45[2]? = some 0x05 from rfl) rfl) (zLo_05 1442 _)
theorem dL_law_1443 : decode cL_law 1443 = .ok (.iadd, 1) := dec_of (s' := 1444) (at_of zLd_45 (show zLb_45[3]? = some 0x60 from rfl) rfl) (zLo_60 1443 _)
theorem dL_law_1444 : decode cL_law 1444 = .ok (.iaload, 1) := dec_of (s' := 1445) (at_of zLd_45 (show zLb_45[4]? = some 0x2e from rfl) rfl) (zLo_2e 1444 _)
theorem dL_law_1445 : decode cL_law 1445 = .ok (.aload_n 0, 1) := dec_of (s' := 1446) (at_of zLd_45 (show zLb_45[5]? = some 0x2a from rfl) rfl) (zLo_2a 1445 _)
theorem dL_law_1446 : decode cL_law 1446 = .ok (.iload 4, 2) := dec_u1 (g := fun n => .iload n) (at_of zLd_45 (show zLb_45[6]? = some 0x15 from rfl) rfl) (at_of zLd_45 (show zLb_45[7]? = some 0x04 from rfl) rfl) (zLo_15 1446)
theorem dL_law_1448 : decode cL_law 1448 = .ok (.iconst 3, 1) := dec_of (s' := 1449) (at_of zLd_45 (show zLb_45[8]? = some 0x06 from rfl) rfl) (zLo_06 1448 _)
theorem dL_law_1449 : decode cL_law 1449 = .ok (.iadd, 1) := dec_of (s' := 1450) (at_of zLd_45 (show zLb_45[9]? = some 0x60 from rfl) rfl) (zLo_60 1449 _)
theorem dL_law_1450 : decode cL_law 1450 = .ok (.iaload, 1) := dec_of (s' := 1451) (at_of zLd_45 (show zLb_45[10]? = some 0x2e from rfl) rfl) (zLo_2e 1450 _)
theorem dL_law_1451 : decode cL_law 1451 = .ok (.invokevirtual 155, 3) := dec_u2 (g := fun n => .invokevirtual n) (at_of zLd_45 (show zLb_45[11]? = some 0xb6 from rfl) rfl) (at_of zLd_45 (show zLb_45[12]? = some 0x00 from rfl) rfl) (at_of zLd_45 (show zLb_45[13]? = some 0x9b from rfl) rfl) (zLo_b6 1451)
theorem dL_law_1454 : decode cL_law 1454 = .ok (.pop, 1) := dec_of (s' := 1455) (at_of zLd_45 (show zLb_45[14]? = some 0x57 from rfl) rfl) (zLo_57 1454 _)
theorem dL_law_1455 : decode cL_law 1455 = .ok (.goto 242, 3) := by decide +kernel
theorem dL_law_1458 : decode cL_law 1458 = .ok (.aload_n 1, 1) := dec_of (s' := 1459) (at_of zLd_45 (show zLb_45[18]? = some 0x2b from rfl) rfl) (zLo_2b 1458 _)
theorem dL_law_1459 : decode cL_law 1459 = .ok (.aload_n 0, 1) := dec_of (s' := 1460) (at_of zLd_45 (show zLb_45[19]? = some 0x2a from rfl) rfl) (zLo_2a 1459 _)
theorem dL_law_1460 : decode cL_law 1460 = .ok (.iload 4, 2) := dec_u1 (g := fun n => .iload n) (at_of zLd_45 (show zLb_45[20]? = some 0x15 from rfl) rfl) (at_of zLd_45 (show zLb_45[21]? = some 0x04 from rfl) rfl) (zLo_15 1460)
theorem dL_law_1462 : decode cL_law 1462 = .ok (.iconst 1, 1) := dec_of (s' := 1463) (at_of zLd_45 (show zLb_45[22]? = some 0x04 from rfl) rfl) (zLo_04 1462 _)
theorem dL_law_1463 : decode cL_law 1463 = .ok (.iadd, 1) := dec_of (s' := 1464) (at_of zLd_45 (show zLb_45[23]? = some 0x60 from rfl) rfl) (zLo_60 1463 _)
theorem dL_law_1464 : decode cL_law 1464 = .ok (.iaload, 1) := dec_of (s' := 1465) (at_of zLd_45 (show zLb_45[24]? = some 0x2e from rfl) rfl) (zLo_2e 1464 _)
theorem dL_law_1465 : decode cL_law 1465 = .ok (.aload_n 0, 1) := dec_of (s' := 1466) (at_of zLd_45 (show zLb_45[25]? = some 0x2a from rfl) rfl) (zLo_2a 1465 _)
theorem dL_law_1466 : decode cL_law 1466 = .ok (.iload 4, 2) := dec_u1 (g := fun n => .iload n) (at_of zLd_45 (show zLb_45[26]? = some 0x15 from rfl) rfl) (at_of zLd_45 (show zLb_45[27]? = some 0x04 from rfl) rfl) (zLo_15 1466)
theorem dL_law_1468 : decode cL_law 1468 = .ok (.iconst 2, 1) := dec_of (s' := 1469) (at_of zLd_45 (show zLb_45[28]? = some 0x05 from rfl) rfl) (zLo_05 1468 _)
theorem dL_law_1469 : decode cL_law 1469 = .ok (.iadd, 1) := dec_of (s' := 1470) (at_of zLd_45 (show zLb_45[29]? = some 0x60 from rfl) rfl) (zLo_60 1469 _)
theorem dL_law_1470 : decode cL_law 1470 = .ok (.iaload, 1) := dec_of (s' := 1471) (at_of zLd_45 (show zLb_45[30]? = some 0x2e from rfl) rfl) (zLo_2e 1470 _)
theorem dL_law_1471 : decode cL_law 1471 = .ok (.invokevirtual 156, 3) := dec_u2 (g := fun n => .invokevirtual n) (at_of zLd_45 (show zLb_45[31]? = some 0xb6 from rfl) rfl) (at_of zLd_46 (show zLb_46[0]? = some 0x00 from rfl) rfl) (at_of zLd_46 (show zLb_46[1]? = some 0x9c from rfl) rfl) (zLo_b6 1471)
theorem dL_law_1474 : decode cL_law 1474 = .ok (.pop, 1) := dec_of (s' := 1475) (at_of zLd_46 (show zLb_46[2]? = some 0x57 from rfl) rfl) (zLo_57 1474 _)
theorem dL_law_1475 : decode cL_law 1475 = .ok (.aload_n 2, 1) := dec_of (s' := 1476) (at_of zLd_46 (show zLb_46[3]? = some 0x2c from rfl) rfl) (zLo_2c 1475 _)
theorem dL_law_1476 : decode cL_law 1476 = .ok (.aload_n 0, 1) := dec_of (s' := 1477) (at_of zLd_46 (show zLb_46[4]? = some 0x2a from rfl) rfl) (zLo_2a 1476 _)
theorem dL_law_1477 : decode cL_law 1477 = .ok (.iload 4, 2) := dec_u1 (g := fun n => .iload n) (at_of zLd_46 (show zLb_46[5]? = some 0x15 from rfl) rfl) (at_of zLd_46 (show zLb_46[6]? = some 0x04 from rfl) rfl) (zLo_15 1477)
theorem dL_law_1479 : decode cL_law 1479 = .ok (.iconst 1, 1) := dec_of (s' := 1480) (at_of zLd_46 (show zLb_46[7]? = some 0x04 from rfl) rfl) (zLo_04 1479 _)
theorem dL_law_1480 : decode cL_law 1480 = .ok (.iadd, 1) := dec_of (s' := 1481) (at_of zLd_46 (show zLb_46[8]? = some 0x60 from rfl) rfl) (zLo_60 1480 _)
theorem dL_law_1481 : decode cL_law 1481 = .ok (.iaload, 1) := dec_of (s' := 1482) (at_of zLd_46 (show zLb_46[9]? = some 0x2e from rfl) rfl) (zLo_2e 1481 _)
theorem dL_law_1482 : decode cL_law 1482 = .ok (.aload_n 0, 1) := dec_of (s' := 1483) (at_of zLd_46 (show zLb_46[10]? = some 0x2a from rfl) rfl) (zLo_2a 1482 _)
theorem dL_law_1483 : decode cL_law 1483 = .ok (.iload 4, 2) := dec_u1 (g := fun n => .iload n) (at_of zLd_46 (show zLb_46[11]? = some 0x15 from rfl) rfl) (at_of zLd_46 (show zLb_46[12]? = some 0x04 from rfl) rfl) (zLo_15 1483)
theorem dL_law_1485 : decode cL_law 1485 = .ok (.iconst 2, 1) := dec_of (s' := 1486) (at_of zLd_46 (show zLb_46[13]? = some 0x05 from rfl) rfl) (zLo_05 1485 _)
theorem dL_law_1486 : decode cL_law 1486 = .ok (.iadd, 1) := dec_of (s' := 1487) (at_of zLd_46 (show zLb_46[14]? = some 0x60 from rfl) rfl) (zLo_60 1486 _)
theorem dL_law_1487 : decode cL_law 1487 = .ok (.iaload, 1) := dec_of (s' := 1488) (at_of zLd_46 (show zLb_46[15]? = some 0x2e from rfl) rfl) (zLo_2e 1487 _)
theorem dL_law_1488 : decode cL_law 1488 = .ok (.invokevirtual 159, 3) := dec_u2 (g := fun n => .invokevirtual n) (at_of zLd_46 (show zLb_46[16]? = some 0xb6 from rfl) rfl) (at_of zLd_46 (show zLb_46[17]? = some 0x00 from rfl) rfl) (at_of zLd_46 (show zLb_46[18]? = some 0x9f from rfl) rfl) (zLo_b6 1488)
theorem dL_law_1491 : decode cL_law 1491 = .ok (.pop, 1) := dec_of (s' := 1492) (at_of zLd_46 (show zLb_46[19]? = some 0x57 from rfl) rfl) (zLo_57 1491 _)
theorem dL_law_1492 : decode cL_law 1492 = .ok (.goto 205, 3) := by decide +kernel
theorem dL_law_1495 : decode cL_law 1495 = .ok (.aload_n 1, 1) := dec_of (s' := 1496) (at_of zLd_46 (show zLb_46[23]? = some 0x2b from rfl) rfl) (zLo_2b 1495 _)
theorem dL_law_1496 : decode cL_law 1496 = .ok (.aload_n 0, 1) := dec_of (s' := 1497) (at_of zLd_46 (show zLb_46[24]? = some 0x2a from rfl) rfl) (zLo_2a 1496 _)
theorem dL_law_1497 : decode cL_law 1497 = .ok (.iload 4, 2) := dec_u1 (g := fun n => .iload n) (at_of zLd_46 (show zLb_46[25]? = some 0x15 from rfl) rfl) (at_of zLd_46 (show zLb_46[26]? = some 0x04 from rfl) rfl) (zLo_15 1497)
theorem dL_law_1499 : decode cL_law 1499 = .ok (.iconst 1, 1) := dec_of (s' := 1500) (at_of zLd_46 (show zLb_46[27]? = some 0x04 from rfl) rfl) (zLo_04 1499 _)
theorem dL_law_1500 : decode cL_law 1500 = .ok (.iadd, 1) := dec_of (s' := 1501) (at_of zLd_46 (show zLb_46[28]? = some 0x60 from rfl) rfl) (zLo_60 1500 _)
theorem dL_law_1501 : decode cL_law 1501 = .ok (.iaload, 1) := dec_of (s' := 1502) (at_of zLd_46 (show zLb_46[29]? = some 0x2e from rfl) rfl) (zLo_2e 1501 _)
theorem dL_law_1502 : decode cL_law 1502 = .ok (.aload_n 0, 1) := dec_of (s' := 1503) (at_of zLd_46 (show zLb_46[30]? = some 0x2a from rfl) rfl) (zLo_2a 1502 _)
theorem dL_law_1503 : decode cL_law 1503 = .ok (.iload 4, 2) := dec_u1 (g := fun n => .iload n) (at_of zLd_46 (show zLb_46[31]? = some 0x15 from rfl) rfl) (at_of zLd_47 (show zLb_47[0]? = some 0x04 from rfl) rfl) (zLo_15 1503)
theorem dL_law_1505 : decode cL_law 1505 = .ok (.iconst 2, 1) := dec_of (s' := 1506) (at_of zLd_47 (show zLb_47[1]? = some 0x05 from rfl) rfl) (zLo_05 1505 _)
theorem dL_law_1506 : decode cL_law 1506 = .ok (.iadd, 1) := dec_of (s' := 1507) (at_of zLd_47 (show zLb_47[2]? = some 0x60 from rfl) rfl) (zLo_60 1506 _)
theorem dL_law_1507 : decode cL_law 1507 = .ok (.iaload, 1) := dec_of (s' := 1508) (at_of zLd_47 (show zLb_47[3]? = some 0x2e from rfl) rfl) (zLo_2e 1507 _)
theorem dL_law_1508 : decode cL_law 1508 = .ok (.aload_n 0, 1) := dec_of (s' := 1509) (at_of zLd_47 (show zLb_47[4]? = some 0x2a from rfl) rfl) (zLo_2a 1508 _)
theorem dL_law_1509 : decode cL_law 1509 = .ok (.iload 4, 2) := dec_u1 (g := fun n => .iload n) (at_of zLd_47 (show zLb_47[5]? = some 0x15 from rfl) rfl) (at_of zLd_47 (show zLb_47[6]? = some 0x04 from rfl) rfl) (zLo_15 1509)
theorem dL_law_1511 : decode cL_law 1511 = .ok (.iconst 3, 1) := dec_of (s' := 1512) (at_of zLd_47 (show zLb_47[7]? = some 0x06 from rfl) rfl) (zLo_06 1511 _)
theorem dL_law_1512 : decode cL_law 1512 = .ok (.iadd, 1) := dec_of (s' := 1513) (at_of zLd_47 (show zLb_47[8]? = some 0x60 from rfl) rfl) (zLo_60 1512 _)
theorem dL_law_1513 : decode cL_law 1513 = .ok (.iaload, 1) := dec_of (s' := 1514) (at_of zLd_47 (show zLb_47[9]? = some 0x2e from rfl) rfl) (zLo_2e 1513 _)
theorem dL_law_1514 : decode cL_law 1514 = .ok (.aload_n 0, 1) := dec_of (s' := 1515) (at_of zLd_47 (show zLb_47[10]? = some 0x2a from rfl) rfl) (zLo_2a 1514 _)
theorem dL_law_1515 : decode cL_law 1515 = .ok (.iload 4, 2) := dec_u1 (g := fun n => .iload n) (at_of zLd_47 (show zLb_47[11]? = some 0x15 from rfl) rfl) (at_of zLd_47 (show zLb_47[12]? = some 0x04 from rfl) rfl) (zLo_15 1515)
theorem dL_law_1517 : decode cL_law 1517 = .ok (.iconst 4, 1) := dec_of (s' := 1518) (at_of zLd_47 (show zLb_47[13]? = some 0x07 from rfl) rfl) (zLo_07 1517 _)
theorem dL_law_1518 : decode cL_law 1518 = .ok (.iadd, 1) := dec_of (s' := 1519) (at_of zLd_47 (show zLb_47[14]? = some 0x60 from rfl) rfl) (zLo_60 1518 _)
theorem dL_law_1519 : decode cL_law 1519 = .ok (.iaload, 1) := dec_of (s' := 1520) (at_of zLd_47 (show zLb_47[15]? = some 0x2e from rfl) rfl) (zLo_2e 1519 _)
theorem dL_law_1520 : decode cL_law 1520 = .ok (.invokevirtual 160, 3) := dec_u2 (g := fun n => .invokevirtual n) (at_of zLd_47 (show zLb_47[16]? = some 0xb6 from rfl) rfl) (at_of zLd_47 (show zLb_47[17]? = some 0x00 from rfl) rfl) (at_of zLd_47 (show zLb_47[18]? = some 0xa0 from rfl) rfl) (zLo_b6 1520)
theorem dL_law_1523 : decode cL_law 1523 = .ok (.pop, 1) := dec_of (s' := 1524) (at_of zLd_47 (show zLb_47[19]? = some 0x57 from rfl) rfl) (zLo_57 1523 _)
theorem dL_law_1524 : decode cL_law 1524 = .ok (.aload_n 2, 1) := dec_of (s' := 1525) (at_of zLd_47 (show zLb_47[20]? = some 0x2c from rfl) rfl) (zLo_2c 1524 _)
theorem dL_law_1525 : decode cL_law 1525 = .ok (.aload_n 0, 1) := dec_of (s' := 1526) (at_of zLd_47 (show zLb_47[21]? = some 0x2a from rfl) rfl) (zLo_2a 1525 _)
theorem dL_law_1526 : decode cL_law 1526 = .ok (.iload 4, 2) := dec_u1 (g := fun n => .iload n) (at_of zLd_47 (show zLb_47[22]? = some 0x15 from rfl) rfl) (at_of zLd_47 (show zLb_47[23]? = some 0x04 from rfl) rfl) (zLo_15 1526)
theorem dL_law_1528 : decode cL_law 1528 = .ok (.iconst 1, 1) := dec_of (s' := 1529) (at_of zLd_47 (show zLb_47[24]? = some 0x04 from rfl) rfl) (zLo_04 1528 _)
theorem dL_law_1529 : decode cL_law 1529 = .ok (.iadd, 1) := dec_of (s' := 1530) (at_of zLd_47 (show zLb_47[25]? = some 0x60 from rfl) rfl) (zLo_60 1529 _)
theorem dL_law_1530 : decode cL_law 1530 = .ok (.iaload, 1) := dec_of (s' := 1531) (at_of zLd_47 (show zLb_47[26]? = some 0x2e from rfl) rfl) (zLo_2e 1530 _)
theorem dL_law_1531 : decode cL_law 1531 = .ok (.aload_n 0, 1) := dec_of (s' := 1532) (at_of zLd_47 (show zLb_47[27]? = some 0x2a from rfl) rfl) (zLo_2a 1531 _)
theorem dL_law_1532 : decode cL_law 1532 = .ok (.iload 4, 2) := dec_u1 (g := fun n => .iload n) (at_of zLd_47 (show zLb_47[28]? = some 0x15 from rfl) rfl) (at_of zLd_47 (show zLb_47[29]? = some 0x04 from rfl) rfl) (zLo_15 1532)
theorem dL_law_1534 : decode cL_law 1534 = .ok (.iconst 2, 1) := dec_of (s' := 1535) (at_of zLd_47 (show zLb_47[30]? = some 0x05 from rfl) rfl) (zLo_05 1534 _)
theorem dL_law_1535 : decode cL_law 1535 = .ok (.iadd, 1) := dec_of (s' := 1536) (at_of zLd_47 (show zLb_47[31]? = some 0x60 from rfl) rfl) (zLo_60 1535 _)
theorem dL_law_1536 : decode cL_law 1536 = .ok (.iaload, 1) := dec_of (s' := 1537) (at_of zLd_48 (show zLb_48[0]? = some 0x2e from rfl) rfl) (zLo_2e 1536 _)
theorem dL_law_1537 : decode cL_law 1537 = .ok (.aload_n 0, 1) := dec_of (s' := 1538) (at_of zLd_48 (show zLb_48[1]? = some 0x2a from rfl) rfl) (zLo_2a 1537 _)
theorem dL_law_1538 : decode cL_law 1538 = .ok (.iload 4, 2) := dec_u1 (g := fun n => .iload n) (at_of zLd_48 (show zLb_48[2]? = some 0x15 from rfl) rfl) (at_of zLd_48 (show zLb_48[3]? = some 0x04 from rfl) rfl) (zLo_15 1538)
theorem dL_law_1540 : decode cL_law 1540 = .ok (.iconst 3, 1) := dec_of (s' := 1541) (at_of zLd_48 (show zLb_48[4]? = some 0x06 from rfl) rfl) (zLo_06 1540 _)
theorem dL_law_1541 : decode cL_law 1541 = .ok (.iadd, 1) := dec_of (s' := 1542) (at_of zLd_48 (show zLb_48[5]? = some 0x60 from rfl) rfl) (zLo_60 1541 _)
theorem dL_law_1542 : decode cL_law 1542 = .ok (.iaload, 1) := dec_of (s' := 1543) (at_of zLd_48 (show zLb_48[6]? = some 0x2e from rfl) rfl) (zLo_2e 1542 _)
theorem dL_law_1543 : decode cL_law 1543 = .ok (.aload_n 0, 1) := dec_of (s' := 1544) (at_of zLd_48 (show zLb_48[7]? = some 0x2a from rfl) rfl) (zLo_2a 1543 _)
theorem dL_law_1544 : decode cL_law 1544 = .ok (.iload 4, 2) := dec_u1 (g := fun n => .iload n) (at_of zLd_48 (show zLb_48[8]? = some 0x15 from rfl) rfl) (at_of zLd_48 (show zLb_48[9]? = some 0x04 from rfl) rfl) (zLo_15 1544)
theorem dL_law_1546 : decode cL_law 1546 = .ok (.iconst 4, 1) := dec_of (s' := 1547) (at_of zLd_48 (show zLb_48[10]? = some 0x07 from rfl) rfl) (zLo_07 1546 _)
theorem dL_law_1547 : decode cL_law 1547 = .ok (.iadd, 1) := dec_of (s' := 1548) (at_of zLd_48 (show zLb_48[11]? = some 0x60 from rfl) rfl) (zLo_60 1547 _)
theorem dL_law_1548 : decode cL_law 1548 = .ok (.iaload, 1) := dec_of (s' := 1549) (at_of zLd_48 (show zLb_48[12]? = some 0x2e from rfl) rfl) (zLo_2e 1548 _)
theorem dL_law_1549 : decode cL_law 1549 = .ok (.invokevirtual 163, 3) := dec_u2 (g := fun n => .invokevirtual n) (at_of zLd_48 (show zLb_48[13]? = some 0xb6 from rfl) rfl) (at_of zLd_48 (show zLb_48[14]? = some 0x00 from rfl) rfl) (at_of zLd_48 (show zLb_48[15]? = some 0xa3 from rfl) rfl) (zLo_b6 1549)
theorem dL_law_1552 : decode cL_law 1552 = .ok (.pop, 1) := dec_of (s' := 1553) (at_of zLd_48 (show zLb_48[16]? = some 0x57 from rfl) rfl) (zLo_57 1552 _)
theorem dL_law_1553 : decode cL_law 1553 = .ok (.goto 144, 3) := by decide +kernel
theorem dL_law_1556 : decode cL_law 1556 = .ok (.aload_n 1, 1) := dec_of (s' := 1557) (at_of zLd_48 (show zLb_48[20]? = some 0x2b from rfl) rfl) (zLo_2b 1556 _)
theorem dL_law_1557 : decode cL_law 1557 = .ok (.invokevirtual 164, 3) := dec_u2 (g := fun n => .invokevirtual n) (at_of zLd_48 (show zLb_48[21]? = some 0xb6 from rfl) rfl) (at_of zLd_48 (show zLb_48[22]? = some 0x00 from rfl) rfl) (at_of zLd_48 (show zLb_48[23]? = some 0xa4 from rfl) rfl) (zLo_b6 1557)
theorem dL_law_1560 : decode cL_law 1560 = .ok (.pop, 1) := dec_of (s' := 1561) (at_of zLd_48 (show zLb_48[24]? = some 0x57 from rfl) rfl) (zLo_57 1560 _)
theorem dL_law_1561 : decode cL_law 1561 = .ok (.aload_n 2, 1) := dec_of (s' := 1562) (at_of zLd_48 (show zLb_48[25]? = some 0x2c from rfl) rfl) (zLo_2c 1561 _)
theorem dL_law_1562 : decode cL_law 1562 = .ok (.invokevirtual 167, 3) := dec_u2 (g := fun n => .invokevirtual n) (at_of zLd_48 (show zLb_48[26]? = some 0xb6 from rfl) rfl) (at_of zLd_48 (show zLb_48[27]? = some 0x00 from rfl) rfl) (at_of zLd_48 (show zLb_48[28]? = some 0xa7 from rfl) rfl) (zLo_b6 1562)
theorem dL_law_1565 : decode cL_law 1565 = .ok (.pop, 1) := dec_of (s' := 1566) (at_of zLd_48 (show zLb_48[29]? = some 0x57 from rfl) rfl) (zLo_57 1565 _)
theorem dL_law_1566 : decode cL_law 1566 = .ok (.goto 131, 3) := by decide +kernel
theorem dL_law_1569 : decode cL_law 1569 = .ok (.aload_n 1, 1) := dec_of (s' := 1570) (at_of zLd_49 (show zLb_49[1]? = some 0x2b from rfl) rfl) (zLo_2b 1569 _)
theorem dL_law_1570 : decode cL_law 1570 = .ok (.aload_n 0, 1) := dec_of (s' := 1571) (at_of zLd_49 (show zLb_49[2]? = some 0x2a from rfl) rfl) (zLo_2a 1570 _)
theorem dL_law_1571 : decode cL_law 1571 = .ok (.iload 4, 2) := dec_u1 (g := fun n => .iload n) (at_of zLd_49 (show zLb_49[3]? = some 0x15 from rfl) rfl) (at_of zLd_49 (show zLb_49[4]? = some 0x04 from rfl) rfl) (zLo_15 1571)
theorem dL_law_1573 : decode cL_law 1573 = .ok (.iconst 1, 1) := dec_of (s' := 1574) (at_of zLd_49 (show zLb_49[5]? = some 0x04 from rfl) rfl) (zLo_04 1573 _)
theorem dL_law_1574 : decode cL_law 1574 = .ok (.iadd, 1) := dec_of (s' := 1575) (at_of zLd_49 (show zLb_49[6]? = some 0x60 from rfl) rfl) (zLo_60 1574 _)
theorem dL_law_1575 : decode cL_law 1575 = .ok (.iaload, 1) := dec_of (s' := 1576) (at_of zLd_49 (show zLb_49[7]? = some 0x2e from rfl) rfl) (zLo_2e 1575 _)
theorem dL_law_1576 : decode cL_law 1576 = .ok (.invokevirtual 168, 3) := dec_u2 (g := fun n => .invokevirtual n) (at_of zLd_49 (show zLb_49[8]? = some 0xb6 from rfl) rfl) (at_of zLd_49 (show zLb_49[9]? = some 0x00 from rfl) rfl) (at_of zLd_49 (show zLb_49[10]? = some 0xa8 from rfl) rfl) (zLo_b6 1576)
theorem dL_law_1579 : decode cL_law 1579 = .ok (.pop, 1) := dec_of (s' := 1580) (at_of zLd_49 (show zLb_49[11]? = some 0x57 from rfl) rfl) (zLo_57 1579 _)
theorem dL_law_1580 : decode cL_law 1580 = .ok (.aload_n 2, 1) := dec_of (s' := 1581) (at_of zLd_49 (show zLb_49[12]? = some 0x2c from rfl) rfl) (zLo_2c 1580 _)
theorem dL_law_1581 : decode cL_law 1581 = .ok (.aload_n 0, 1) := dec_of (s' := 1582) (at_of zLd_49 (show zLb_49[13]? = some 0x2a from rfl) rfl) (zLo_2a 1581 _)
theorem dL_law_1582 : decode cL_law 1582 = .ok (.iload 4, 2) := dec_u1 (g := fun n => .iload n) (at_of zLd_49 (show zLb_49[14]? = some 0x15 from rfl) rfl) (at_of zLd_49 (show zLb_49[15]? = some 0x04 from rfl) rfl) (zLo_15 1582)
theorem dL_law_1584 : decode cL_law 1584 = .ok (.iconst 1, 1) := dec_of (s' := 1585) (at_of zLd_49 (show zLb_49[16]? = some 0x04 from rfl) rfl) (zLo_04 1584 _)
theorem dL_law_1585 : decode cL_law 1585 = .ok (.iadd, 1) := dec_of (s' := 1586) (at_of zLd_49 (show zLb_49[17]? = some 0x60 from rfl) rfl) (zLo_60 1585 _)
theorem dL_law_1586 : decode cL_law 1586 = .ok (.iaload, 1) := dec_of (s' := 1587) (at_of zLd_49 (show zLb_49[18]? = some 0x2e from rfl) rfl) (zLo_2e 1586 _)
theorem dL_law_1587 : decode cL_law 1587 = .ok (.invokevirtual 172, 3) := dec_u2 (g := fun n => .invokevirtual n) (at_of zLd_49 (show zLb_49[19]? = some 0xb6 from rfl) rfl) (at_of zLd_49 (show zLb_49[20]? = some 0x00 from rfl) rfl) (at_of zLd_49 (show zLb_49[21]? = some 0xac from rfl) rfl) (zLo_b6 1587)
theorem dL_law_1590 : decode cL_law 1590 = .ok (.pop, 1) := dec_of (s' := 1591) (at_of zLd_49 (show zLb_49[22]? = some 0x57 from rfl) rfl) (zLo_57 1590 _)
theorem dL_law_1591 : decode cL_law 1591 = .ok (.goto 106, 3) := by decide +kernel
theorem dL_law_1594 : decode cL_law 1594 = .ok (.aload_n 1, 1) := dec_of (s' := 1595) (at_of zLd_49 (show zLb_49[26]? = some 0x2b from rfl) rfl) (zLo_2b 1594 _)
theorem dL_law_1595 : decode cL_law 1595 = .ok (.aload_n 0, 1) := dec_of (s' := 1596) (at_of zLd_49 (show zLb_49[27]? = some 0x2a from rfl) rfl) (zLo_2a 1595 _)
theorem dL_law_1596 : decode cL_law 1596 = .ok (.iload 4, 2) := dec_u1 (g := fun n => .iload n) (at_of zLd_49 (show zLb_49[28]? = some 0x15 from rfl) rfl) (at_of zLd_49 (show zLb_49[29]? = some 0x04 from rfl) rfl) (zLo_15 1596)
theorem dL_law_1598 : decode cL_law 1598 = .ok (.iconst 1, 1) := dec_of (s' := 1599) (at_of zLd_49 (show zLb_49[30]? = some 0x04 from rfl) rfl) (zLo_04 1598 _)
theorem dL_law_1599 : decode cL_law 1599 = .ok (.iadd, 1) := dec_of (s' := 1600) (at_of zLd_49 (show zLb_49[31]? = some 0x60 from rfl) rfl) (zLo_60 1599 _)
theorem dL_law_1600 : decode cL_law 1600 = .ok (.iaload, 1) := dec_of (s' := 1601) (at_of zLd_50 (show zLb_50[0]? = some 0x2e from rfl) rfl) (zLo_2e 1600 _)
theorem dL_law_1601 : decode cL_law 1601 = .ok (.invokevirtual 173, 3) := dec_u2 (g := fun n => .invokevirtual n) (at_of zLd_50 (show zLb_50[1]? = some 0xb6 from rfl) rfl) (at_of zLd_50 (show zLb_50[2]? = some 0x00 from rfl) rfl) (at_of zLd_50 (show zLb_50[3]? = some 0xad from rfl) rfl) (zLo_b6 1601)
theorem dL_law_1604 : decode cL_law 1604 = .ok (.pop, 1) := dec_of (s' := 1605) (at_of zLd_50 (show zLb_50[4]? = some 0x57 from rfl) rfl) (zLo_57 1604 _)
theorem dL_law_1605 : decode cL_law 1605 = .ok (.aload_n 2, 1) := dec_of (s' := 1606) (at_of zLd_50 (show zLb_50[5]? = some 0x2c from rfl) rfl) (zLo_2c 1605 _)
theorem dL_law_1606 : decode cL_law 1606 = .ok (.aload_n 0, 1) := dec_of (s' := 1607) (at_of zLd_50 (show zLb_50[6]? = some 0x2a from rfl) rfl) (zLo_2a 1606 _)
theorem dL_law_1607 : decode cL_law 1607 = .ok (.iload 4, 2) := dec_u1 (g := fun n => .iload n) (at_of zLd_50 (show zLb_50[7]? = some 0x15 from rfl) rfl) (at_of zLd_50 (show zLb_50[8]? = some 0x04 from rfl) rfl) (zLo_15 1607)
theorem dL_law_1609 : decode cL_law 1609 = .ok (.iconst 1, 1) := dec_of (s' := 1610) (at_of zLd_50 (show zLb_50[9]? = some 0x04 from rfl) rfl) (zLo_04 1609 _)
theorem dL_law_1610 : decode cL_law 1610 = .ok (.iadd, 1) := dec_of (s' := 1611) (at_of zLd_50 (show zLb_50[10]? = some 0x60 from rfl) rfl) (zLo_60 1610 _)
theorem dL_law_1611 : decode cL_law 1611 = .ok (.iaload, 1) := dec_of (s' := 1612) (at_of zLd_50 (show zLb_50[11]? = some 0x2e from rfl) rfl) (zLo_2e 1611 _)
theorem dL_law_1612 : decode cL_law 1612 = .ok (.invokevirtual 176, 3) := dec_u2 (g := fun n => .invokevirtual n) (at_of zLd_50 (show zLb_50[12]? = some 0xb6 from rfl) rfl) (at_of zLd_50 (show zLb_50[13]? = some 0x00 from rfl) rfl) (at_of zLd_50 (show zLb_50[14]? = some 0xb0 from rfl) rfl) (zLo_b6 1612)
theorem dL_law_1615 : decode cL_law 1615 = .ok (.pop, 1) := dec_of (s' := 1616) (at_of zLd_50 (show zLb_50[15]? = some 0x57 from rfl) rfl) (zLo_57 1615 _)
theorem dL_law_1616 : decode cL_law 1616 = .ok (.goto 81, 3) := by decide +kernel
theorem dL_law_1619 : decode cL_law 1619 = .ok (.aload_n 1, 1) := dec_of (s' := 1620) (at_of zLd_50 (show zLb_50[19]? = some 0x2b from rfl) rfl) (zLo_2b 1619 _)
theorem dL_law_1620 : decode cL_law 1620 = .ok (.aload_n 0, 1) := dec_of (s' := 1621) (at_of zLd_50 (show zLb_50[20]? = some 0x2a from rfl) rfl) (zLo_2a 1620 _)
theorem dL_law_1621 : decode cL_law 1621 = .ok (.iload 4, 2) := dec_u1 (g := fun n => .iload n) (at_of zLd_50 (show zLb_50[21]? = some 0x15 from rfl) rfl) (at_of zLd_50 (show zLb_50[22]? = some 0x04 from rfl) rfl) (zLo_15 1621)
theorem dL_law_1623 : decode cL_law 1623 = .ok (.iconst 1, 1) := dec_of (s' := 1624) (at_of zLd_50 (show zLb_50[23]? = some 0x04 from rfl) rfl) (zLo_04 1623 _)
theorem dL_law_1624 : decode cL_law 1624 = .ok (.iadd, 1) := dec_of (s' := 1625) (at_of zLd_50 (show zLb_50[24]? = some 0x60 from rfl) rfl) (zLo_60 1624 _)
theorem dL_law_1625 : decode cL_law 1625 = .ok (.iaload, 1) := dec_of (s' := 1626) (at_of zLd_50 (show zLb_50[25]? = some 0x2e from rfl) rfl) (zLo_2e 1625 _)
theorem dL_law_1626 : decode cL_law 1626 = .ok (.invokevirtual 177, 3) := dec_u2 (g := fun n => .invokevirtual n) (at_of zLd_50 (show zLb_50[26]? = some 0xb6 from rfl) rfl) (at_of zLd_50 (show zLb_50[27]? = some 0x00 from rfl) rfl) (at_of zLd_50 (show zLb_50[28]? = some 0xb1 from rfl) rfl) (zLo_b6 1626)
theorem dL_law_1629 : decode cL_law 1629 = .ok (.pop, 1) := dec_of (s' := 1630) (at_of zLd_50 (show zLb_50[29]? = some 0x57 from rfl) rfl) (zLo_57 1629 _)
theorem dL_law_1630 : decode cL_law 1630 = .ok (.aload_n 2, 1) := dec_of (s' := 1631) (at_of zLd_50 (show zLb_50[30]? = some 0x2c from rfl) rfl) (zLo_2c 1630 _)
theorem dL_law_1631 : decode cL_law 1631 = .ok (.aload_n 0, 1) := dec_of (s' := 1632) (at_of zLd_50 (show zLb_50[31]? = some 0x2a from rfl) rfl) (zLo_2a 1631 _)
theorem dL_law_1632 : decode cL_law 1632 = .ok (.iload 4, 2) := dec_u1 (g := fun n => .iload n) (at_of zLd_51 (show zLb_51[0]? = some 0x15 from rfl) rfl) (at_of zLd_51 (show zLb_51[1]? = some 0x04 from rfl) rfl) (zLo_15 1632)
theorem dL_law_1634 : decode cL_law 1634 = .ok (.iconst 1, 1) := dec_of (s' := 1635) (at_of zLd_51 (show zLb_51[2]? = some 0x04 from rfl) rfl) (zLo_04 1634 _)
theorem dL_law_1635 : decode cL_law 1635 = .ok (.iadd, 1) := dec_of (s' := 1636) (at_of zLd_51 (show zLb_51[3]? = some 0x60 from rfl) rfl) (zLo_60 1635 _)
theorem dL_law_1636 : decode cL_law 1636 = .ok (.iaload, 1) := dec_of (s' := 1637) (at_of zLd_51 (show zLb_51[4]? = some 0x2e from rfl) rfl) (zLo_2e 1636 _)
theorem dL_law_1637 : decode cL_law 1637 = .ok (.invokevirtual 180, 3) := dec_u2 (g := fun n => .invokevirtual n) (at_of zLd_51 (show zLb_51[5]? = some 0xb6 from rfl) rfl) (at_of zLd_51 (show zLb_51[6]? = some 0x00 from rfl) rfl) (at_of zLd_51 (show zLb_51[7]? = some 0xb4 from rfl) rfl) (zLo_b6 1637)
theorem dL_law_1640 : decode cL_law 1640 = .ok (.pop, 1) := dec_of (s' := 1641) (at_of zLd_51 (show zLb_51[8]? = some 0x57 from rfl) rfl) (zLo_57 1640 _)
theorem dL_law_1641 : decode cL_law 1641 = .ok (.goto 56, 3) := by decide +kernel
theorem dL_law_1644 : decode cL_law 1644 = .ok (.aload_n 1, 1) := dec_of (s' := 1645) (at_of zLd_51 (show zLb_51[12]? = some 0x2b from rfl) rfl) (zLo_2b 1644 _)
theorem dL_law_1645 : decode cL_law 1645 = .ok (.aload_n 0, 1) := dec_of (s' := 1646) (at_of zLd_51 (show zLb_51[13]? = some 0x2a from rfl) rfl) (zLo_2a 1645 _)
theorem dL_law_1646 : decode cL_law 1646 = .ok (.iload 4, 2) := dec_u1 (g := fun n => .iload n) (at_of zLd_51 (show zLb_51[14]? = some 0x15 from rfl) rfl) (at_of zLd_51 (show zLb_51[15]? = some 0x04 from rfl) rfl) (zLo_15 1646)
theorem dL_law_1648 : decode cL_law 1648 = .ok (.iconst 1, 1) := dec_of (s' := 1649) (at_of zLd_51 (show zLb_51[16]? = some 0x04 from rfl) rfl) (zLo_04 1648 _)
theorem dL_law_1649 : decode cL_law 1649 = .ok (.iadd, 1) := dec_of (s' := 1650) (at_of zLd_51 (show zLb_51[17]? = some 0x60 from rfl) rfl) (zLo_60 1649 _)
theorem dL_law_1650 : decode cL_law 1650 = .ok (.iaload, 1) := dec_of (s' := 1651) (at_of zLd_51 (show zLb_51[18]? = some 0x2e from rfl) rfl) (zLo_2e 1650 _)
theorem dL_law_1651 : decode cL_law 1651 = .ok (.aload_n 3, 1) := dec_of (s' := 1652) (at_of zLd_51 (show zLb_51[19]? = some 0x2d from rfl) rfl) (zLo_2d 1651 _)
theorem dL_law_1652 : decode cL_law 1652 = .ok (.invokestatic 181, 3) := dec_u2 (g := fun n => .invokestatic n) (at_of zLd_51 (show zLb_51[20]? = some 0xb8 from rfl) rfl) (at_of zLd_51 (show zLb_51[21]? = some 0x00 from rfl) rfl) (at_of zLd_51 (show zLb_51[22]? = some 0xb5 from rfl) rfl) (zLo_b8 1652)
theorem dL_law_1655 : decode cL_law 1655 = .ok (.istore 5, 2) := dec_u1 (g := fun n => .istore n) (at_of zLd_51 (show zLb_51[23]? = some 0x36 from rfl) rfl) (at_of zLd_51 (show zLb_51[24]? = some 0x05 from rfl) rfl) (zLo_36 1655)
theorem dL_law_1657 : decode cL_law 1657 = .ok (.aload_n 2, 1) := dec_of (s' := 1658) (at_of zLd_51 (show zLb_51[25]? = some 0x2c from rfl) rfl) (zLo_2c 1657 _)
theorem dL_law_1658 : decode cL_law 1658 = .ok (.aload_n 0, 1) := dec_of (s' := 1659) (at_of zLd_51 (show zLb_51[26]? = some 0x2a from rfl) rfl) (zLo_2a 1658 _)
theorem dL_law_1659 : decode cL_law 1659 = .ok (.iload 4, 2) := dec_u1 (g := fun n => .iload n) (at_of zLd_51 (show zLb_51[27]? = some 0x15 from rfl) rfl) (at_of zLd_51 (show zLb_51[28]? = some 0x04 from rfl) rfl) (zLo_15 1659)
theorem dL_law_1661 : decode cL_law 1661 = .ok (.iconst 1, 1) := dec_of (s' := 1662) (at_of zLd_51 (show zLb_51[29]? = some 0x04 from rfl) rfl) (zLo_04 1661 _)
theorem dL_law_1662 : decode cL_law 1662 = .ok (.iadd, 1) := dec_of (s' := 1663) (at_of zLd_51 (show zLb_51[30]? = some 0x60 from rfl) rfl) (zLo_60 1662 _)
theorem dL_law_1663 : decode cL_law 1663 = .ok (.iaload, 1) := dec_of (s' := 1664) (at_of zLd_51 (show zLb_51[31]? = some 0x2e from rfl) rfl) (zLo_2e 1663 _)
theorem dL_law_1664 : decode cL_law 1664 = .ok (.invokevirtual 186, 3) := dec_u2 (g := fun n => .invokevirtual n) (at_of zLd_52 (show zLb_52[0]? = some 0xb6 from rfl) rfl) (at_of zLd_52 (show zLb_52[1]? = some 0x00 from rfl) rfl) (at_of zLd_52 (show zLb_52[2]? = some 0xba from rfl) rfl) (zLo_b6 1664)
theorem dL_law_1667 : decode cL_law 1667 = .ok (.istore 6, 2) := dec_u1 (g := fun n => .istore n) (at_of zLd_52 (show zLb_52[3]? = some 0x36 from rfl) rfl) (at_of zLd_52 (show zLb_52[4]? = some 0x06 from rfl) rfl) (zLo_36 1667)
theorem dL_law_1669 : decode cL_law 1669 = .ok (.goto 28, 3) := by decide +kernel
theorem dL_law_1672 : decode cL_law 1672 = .ok (.aload_n 1, 1) := dec_of (s' := 1673) (at_of zLd_52 (show zLb_52[8]? = some 0x2b from rfl) rfl) (zLo_2b 1672 _)
theorem dL_law_1673 : decode cL_law 1673 = .ok (.aload_n 0, 1) := dec_of (s' := 1674) (at_of zLd_52 (show zLb_52[9]? = some 0x2a from rfl) rfl) (zLo_2a 1673 _)
theorem dL_law_1674 : decode cL_law 1674 = .ok (.iload 4, 2) := dec_u1 (g := fun n => .iload n) (at_of zLd_52 (show zLb_52[10]? = some 0x15 from rfl) rfl) (at_of zLd_52 (show zLb_52[11]? = some 0x04 from rfl) rfl) (zLo_15 1674)
theorem dL_law_1676 : decode cL_law 1676 = .ok (.iconst 1, 1) := dec_of (s' := 1677) (at_of zLd_52 (show zLb_52[12]? = some 0x04 from rfl) rfl) (zLo_04 1676 _)
theorem dL_law_1677 : decode cL_law 1677 = .ok (.iadd, 1) := dec_of (s' := 1678) (at_of zLd_52 (show zLb_52[13]? = some 0x60 from rfl) rfl) (zLo_60 1677 _)
theorem dL_law_1678 : decode cL_law 1678 = .ok (.iaload, 1) := dec_of (s' := 1679) (at_of zLd_52 (show zLb_52[14]? = some 0x2e from rfl) rfl) (zLo_2e 1678 _)
theorem dL_law_1679 : decode cL_law 1679 = .ok (.invokevirtual 187, 3) := dec_u2 (g := fun n => .invokevirtual n) (at_of zLd_52 (show zLb_52[15]? = some 0xb6 from rfl) rfl) (at_of zLd_52 (show zLb_52[16]? = some 0x00 from rfl) rfl) (at_of zLd_52 (show zLb_52[17]? = some 0xbb from rfl) rfl) (zLo_b6 1679)
theorem dL_law_1682 : decode cL_law 1682 = .ok (.pop, 1) := dec_of (s' := 1683) (at_of zLd_52 (show zLb_52[18]? = some 0x57 from rfl) rfl) (zLo_57 1682 _)
theorem dL_law_1683 : decode cL_law 1683 = .ok (.aload_n 2, 1) := dec_of (s' := 1684) (at_of zLd_52 (show zLb_52[19]? = some 0x2c from rfl) rfl) (zLo_2c 1683 _)
theorem dL_law_1684 : decode cL_law 1684 = .ok (.aload_n 0, 1) := dec_of (s' := 1685) (at_of zLd_52 (show zLb_52[20]? = some 0x2a from rfl) rfl) (zLo_2a 1684 _)
theorem dL_law_1685 : decode cL_law 1685 = .ok (.iload 4, 2) := dec_u1 (g := fun n => .iload n) (at_of zLd_52 (show zLb_52[21]? = some 0x15 from rfl) rfl) (at_of zLd_52 (show zLb_52[22]? = some 0x04 from rfl) rfl) (zLo_15 1685)
theorem dL_law_1687 : decode cL_law 1687 = .ok (.iconst 1, 1) := dec_of (s' := 1688) (at_of zLd_52 (show zLb_52[23]? = some 0x04 from rfl) rfl) (zLo_04 1687 _)
theorem dL_law_1688 : decode cL_law 1688 = .ok (.iadd, 1) := dec_of (s' := 1689) (at_of zLd_52 (show zLb_52[24]? = some 0x60 from rfl) rfl) (zLo_60 1688 _)
theorem dL_law_1689 : decode cL_law 1689 = .ok (.iaload, 1) := dec_of (s' := 1690) (at_of zLd_52 (show zLb_52[25]? = some 0x2e from rfl) rfl) (zLo_2e 1689 _)
theorem dL_law_1690 : decode cL_law 1690 = .ok (.invokevirtual 190, 3) := dec_u2 (g := fun n => .invokevirtual n) (at_of zLd_52 (show zLb_52[26]? = some 0xb6 from rfl) rfl) (at_of zLd_52 (show zLb_52[27]? = some 0x00 from rfl) rfl) (at_of zLd_52 (show zLb_52[28]? = some 0xbe from rfl) rfl) (zLo_b6 1690)
theorem dL_law_1693 : decode cL_law 1693 = .ok (.pop, 1) := dec_of (s' := 1694) (at_of zLd_52 (show zLb_52[29]? = some 0x57 from rfl) rfl) (zLo_57 1693 _)
theorem dL_law_1694 : decode cL_law 1694 = .ok (.goto 3, 3) := by decide +kernel
theorem dL_law_1697 : decode cL_law 1697 = .ok (.iinc 4 7, 3) := by decide +kernel
theorem dL_law_1700 : decode cL_law 1700 = .ok (.goto (-1677), 3) := by decide +kernel
theorem dL_law_1703 : decode cL_law 1703 = .ok (.iconst 1, 1) := dec_of (s' := 1704) (at_of zLd_53 (show zLb_53[7]? = some 0x04 from rfl) rfl) (zLo_04 1703 _)
theorem dL_law_1704 : decode cL_law 1704 = .ok (.ireturn, 1) := dec_of (s' := 1705) (at_of zLd_53 (show zLb_53[8]? = some 0xac from rfl) rfl) (zLo_ac 1704 _)
/-! THE CLAIM OUT OF ONE WALK OF THE LAW'S BODY. Your part is whole_start (and what it stands on); all else here is the same for every law, but numbers. -/
def R_law : String := "ClockReachLaw"
def lw_P (b : Addr) (xs : List Int32) (args : Array Value) (s : State) : Prop := args = #[.ref b] ∧ s.IntsAt b xs ∧ xs.length ≤ 3584 ∧ (Jvm.Cond.and given_1 narrow_1).before args s = true
def lw_Q (_ : Array Value) (s : State) (o : Outcome) (t : State) : Prop := o = .returned (some (.int 1)) ∧ Framed s o t [] 601024 7293034
def lw_Z (below : List Frame) (a : Array Value) (s : State) : State → Prop := fun t => ∃ o, t.status = .running ∧ Ended t below o ∧ lw_Q a s o t
/-- the law's own end, with 1 on the stack, nothing written that was there before, its room as the claim has it -/
theorem lw_ret {p : Program} {l : Launch} {e : Env} {s : State} {m : MethodId} {below : List Frame} {meth : Method} {c : Code} {b : Nat} (hx : p.tables.exec = Jvm.exec) (hb : c.code = code) (hr : meth.sig.returnType = ret) (hlocks : meth.locks = false) {pc : Nat} {H : Heap} {ls : Array Slot} (hdg : decode code pc = .ok (.ireturn, 1)) : W p l e room_1 s m #[Value.ref b] below meth c H [] 601024 7293034 (lw_Z below #[Value.ref b] s) (F0 m pc ls [.int 1]) := by
  intro T hT X
  obtain ⟨fs, hret, hrun, hended, hW, hframe⟩ := X.leave (v := some (.int 1)) (hlocks := hlocks) (fun h => by rw [hr] at h; cases h)
  have hmeth' : T.vm.method? m = some meth := X.method'
  refine ⟨T.setFrames fs, ?_, .returned (some (.int 1)), hrun, hended, rfl, ⟨_, rfl⟩, hW, hframe⟩
  jvm_step X.here [X.here.top, hx, hb, hdg, hmeth', hr, ret, narrow_b1]
  (try refine ⟨rfl, ?_⟩); (try refine ⟨rfl, ?_⟩)
  first | (intro acts; rw [hret _ acts rfl rfl rfl]) | rw [hret _ _ rfl rfl rfl]
  exact Steps.refl _
/-- what holds at the law's entry: the machine, the code, the tables' words (any of lw_tbl by 'hts w (by decide +kernel)'), the script of L ints xs at the cell b, what the Statement gives of the start (any of its parts by flat_of_before) -/
def lw_At (p : Program) (s : State) (m : MethodId) (meth : Method) (c : Code) (b L : Nat) (xs : Nat → Int32) : Prop :=
  p.tables.exec = Jvm.exec ∧ c.code = code ∧ meth.sig.returnType = ret ∧ c.maxLocals = 7 ∧ s.vm.findClass R_law = some m.cls ∧ (∀ w ∈ lw_tbl, w.before #[Value.ref b] s = true) ∧ va_X b L xs s s.heap ∧ b < s.heap.size ∧ meth.locks = false ∧ (Jvm.Cond.and given_1 narrow_1).before #[Value.ref b] s = true
/-- the classes of the worlds, as the tables have them -/
theorem law_known {p : Program} {e : Env} {s : State} {m : MethodId} {below : List Frame} {meth : Method} {c : Code} {b L : Nat} {xs : Nat → Int32} (C0 : lw_At p s m meth c b L xs) : ∃ (dC : Nat → ClassId) (dI : Nat → Nat → Nat), va_K (dC, dI) vwCl [] s := by
  obtain ⟨hx, hb, hr, hml, hown, hts, hX, hbl, hlocks, hgv⟩ := C0
  obtain ⟨c0, iS0, hKn0⟩ := u_known (C := RX0) (T := TX0) (N := 17) (n := 17) hts inL_X0 (hts (.instantiable RX0 17) (List.mem_append_right _ (List.mem_append_left _ (List.mem_of_getElem? (i := 135) rfl))))
  obtain ⟨c1, iS1, hKn1⟩ := u_known (C := RX1) (T := TX1) (N := 18) (n := 18) hts inL_X1 (hts (.instantiable RX1 18) (List.mem_append_right _ (List.mem_append_right _ (List.mem_append_left _ (List.mem_of_getElem? (i := 22) rfl)))))
  obtain ⟨c2, iS2, hKn2⟩ := u_known (C := RX2) (T := TX2) (N := 3) (n := 3) hts inL_X2 (hts (.instantiable RX2 3) (List.mem_append_right _ (List.mem_append_right _ (List.mem_append_left _ (List.mem_of_getElem? (i := 5) rfl)))))
  obtain ⟨c3, iS3, hKn3⟩ := u_known (C := RX3) (T := TX3) (N := 5) (n := 5) hts inL_X3 (hts (.instantiable RX3 5) (List.mem_append_right _ (List.mem_append_right _ (List.mem_append_left _ (List.mem_of_getElem? (i := 191) rfl)))))
  obtain ⟨c4, iS4, hKn4⟩ := u_known (C := RX4) (T := TX4) (N := 12) (n := 12) hts inL_X4 (hts (.instantiable RX4 12) (List.mem_append_right _ (List.mem_append_left _ (List.mem_of_getElem? (i := 29) rfl))))
  obtain ⟨c5, iS5, hKn5⟩ := u_known (C := RX5) (T := TX5) (N := 8) (n := 8) hts inL_X5 (hts (.instantiable RX5 8) (List.mem_append_right _ (List.mem_append_right _ (List.mem_append_left _ (List.mem_of_getElem? (i := 116) rfl)))))
  obtain ⟨c6, iS6, hKn6⟩ := u_known (C := RX6) (T := TX6) (N := 10) (n := 10) hts inL_X6 (hts (.instantiable RX6 10) (List.mem_append_right _ (List.mem_append_right _ (List.mem_append_left _ (List.mem_of_getElem? (i := 149) rfl)))))
  obtain ⟨c7, iS7, hKn7⟩ := u_known (C := RX7) (T := TX7) (N := 2) (n := 2) hts inL_X7 (hts (.instantiable RX7 2) (List.mem_append_right _ (List.mem_append_right _ (List.mem_append_left _ (List.mem_of_getElem? (i := 29) rfl)))))
  obtain ⟨c8, iS8, hKn8⟩ := u_known (C := RX8) (T := TX8) (N := 16) (n := 16) hts inL_X8 (hts (.instantiable RX8 16) (List.mem_append_right _ (List.mem_append_left _ (List.mem_of_getElem? (i := 21) rfl))))
  obtain ⟨c9, iS9, hKn9⟩ := u_known (C := RX9) (T := TX9) (N := 67) (n := 67) hts inL_X9 (hts (.instantiable RX9 67) (List.mem_append_right _ (List.mem_append_right _ (List.mem_append_right _ (List.mem_append_right _ (List.mem_append_right _ (List.mem_append_left _ (List.mem_of_getElem? (i := 213) rfl))))))))
  refine ⟨fun k => [c0, c1, c2, c3, c4, c5, c6, c7, c8, c9].getD k c0, fun k => [iS0, iS1, iS2, iS3, iS4, iS5, iS6, iS7, iS8, iS9].getD k iS0, ⟨?_, fun k q h => by simp at h⟩⟩
  intro k q hq
  match k, hq with
  | 0, hq => cases hq; exact hKn0
  | 1, hq => cases hq; exact hKn1
  | 2, hq => cases hq; exact hKn2
  | 3, hq => cases hq; exact hKn3
  | 4, hq => cases hq; exact hKn4
  | 5, hq => cases hq; exact hKn5
  | 6, hq => cases hq; exact hKn6
  | 7, hq => cases hq; exact hKn7
  | 8, hq => cases hq; exact hKn8
  | 9, hq => cases hq; exact hKn9
  | k + 10, hq => simp [vwCl] at hq
/-- what the tables and the start say of texts and statics -/
theorem law_E {p : Program} {e : Env} {s : State} {m : MethodId} {below : List Frame} {meth : Method} {c : Code} {b L : Nat} {xs : Nat → Int32} (C0 : lw_At p s m meth c b L xs) {A : Nat → Prop} (hA : ∀ a : Nat, a < s.heap.size → ¬ A a) : ∃ (adK adV : Nat → Nat) (fz : Option Nat), sx_E adK adV fz A s s.heap := by
  obtain ⟨hx, hb, hr, hml, hown, hts, hX, hbl, hlocks, hgv⟩ := C0
  have hs := flat_of_before _ hgv
  obtain ⟨adK, adV, hv, hev⟩ := vk_Sof (N := 8) (tm := fun i => Term.string RX4 (tx_ix.getD i (0, "")).1) (len := tx_len) (byt := tx_byt) (A := A) (args := #[Value.ref b]) (s := s) tx_lt
    (by intro i hi; rcases (show i = 0 ∨ i = 1 ∨ i = 2 ∨ i = 3 ∨ i = 4 ∨ i = 5 ∨ i = 6 ∨ i = 7 by omega) with rfl | rfl | rfl | rfl | rfl | rfl | rfl | rfl <;> exact hs _ (by decide +kernel))
    (by intro i hi; rcases (show i = 0 ∨ i = 1 ∨ i = 2 ∨ i = 3 ∨ i = 4 ∨ i = 5 ∨ i = 6 ∨ i = 7 by omega) with rfl | rfl | rfl | rfl | rfl | rfl | rfl | rfl <;> exact hs _ (by decide +kernel))
    (by intro i hi; rcases (show i = 0 ∨ i = 1 ∨ i = 2 ∨ i = 3 ∨ i = 4 ∨ i = 5 ∨ i = 6 ∨ i = 7 by omega) with rfl | rfl | rfl | rfl | rfl | rfl | rfl | rfl <;> exact hs _ (by decide +kernel))
    (by intro i hi; rcases (show i = 0 ∨ i = 1 ∨ i = 2 ∨ i = 3 ∨ i = 4 ∨ i = 5 ∨ i = 6 ∨ i = 7 by omega) with rfl | rfl | rfl | rfl | rfl | rfl | rfl | rfl <;> exact hs _ (by decide +kernel))
    (by
      intro i hi j hj
      rcases (show i = 0 ∨ i = 1 ∨ i = 2 ∨ i = 3 ∨ i = 4 ∨ i = 5 ∨ i = 6 ∨ i = 7 by omega) with rfl | rfl | rfl | rfl | rfl | rfl | rfl | rfl
      · have hj : j < 5 := hj
        rcases (show j = 0 ∨ j = 1 ∨ j = 2 ∨ j = 3 ∨ j = 4 by omega) with rfl | rfl | rfl | rfl | rfl <;> exact hs _ (by decide +kernel)
      · have hj : j < 5 := hj
        rcases (show j = 0 ∨ j = 1 ∨ j = 2 ∨ j = 3 ∨ j = 4 by omega) with rfl | rfl | rfl | rfl | rfl <;> exact hs _ (by decide +kernel)
      · have hj : j < 6 := hj
        rcases (show j = 0 ∨ j = 1 ∨ j = 2 ∨ j = 3 ∨ j = 4 ∨ j = 5 by omega) with rfl | rfl | rfl | rfl | rfl | rfl <;> exact hs _ (by decide +kernel)
      · have hj : j < 5 := hj
        rcases (show j = 0 ∨ j = 1 ∨ j = 2 ∨ j = 3 ∨ j = 4 by omega) with rfl | rfl | rfl | rfl | rfl <;> exact hs _ (by decide +kernel)
      · have hj : j < 5 := hj
        rcases (show j = 0 ∨ j = 1 ∨ j = 2 ∨ j = 3 ∨ j = 4 by omega) with rfl | rfl | rfl | rfl | rfl <;> exact hs _ (by decide +kernel)
      · have hj : j < 4 := hj
        rcases (show j = 0 ∨ j = 1 ∨ j = 2 ∨ j = 3 by omega) with rfl | rfl | rfl | rfl <;> exact hs _ (by decide +kernel)
      · have hj : j < 4 := hj
        rcases (show j = 0 ∨ j = 1 ∨ j = 2 ∨ j = 3 by omega) with rfl | rfl | rfl | rfl <;> exact hs _ (by decide +kernel)
      · have hj : j < 5 := hj
        rcases (show j = 0 ∨ j = 1 ∨ j = 2 ∨ j = 3 ∨ j = 4 by omega) with rfl | rfl | rfl | rfl | rfl <;> exact hs _ (by decide +kernel))
    (by
      intro i j hi hj hne
      rcases (show i = 0 ∨ i = 1 ∨ i = 2 ∨ i = 3 ∨ i = 4 ∨ i = 5 ∨ i = 6 ∨ i = 7 by omega) with rfl | rfl | rfl | rfl | rfl | rfl | rfl | rfl
      · rcases (show j = 0 ∨ j = 1 ∨ j = 2 ∨ j = 3 ∨ j = 4 ∨ j = 5 ∨ j = 6 ∨ j = 7 by omega) with rfl | rfl | rfl | rfl | rfl | rfl | rfl | rfl
        · exact absurd rfl hne
        · first | exact Or.inl (hs _ (by decide +kernel)) | exact Or.inr (hs _ (by decide +kernel))
        · first | exact Or.inl (hs _ (by decide +kernel)) | exact Or.inr (hs _ (by decide +kernel))
        · first | exact Or.inl (hs _ (by decide +kernel)) | exact Or.inr (hs _ (by decide +kernel))
        · first | exact Or.inl (hs _ (by decide +kernel)) | exact Or.inr (hs _ (by decide +kernel))
        · first | exact Or.inl (hs _ (by decide +kernel)) | exact Or.inr (hs _ (by decide +kernel))
        · first | exact Or.inl (hs _ (by decide +kernel)) | exact Or.inr (hs _ (by decide +kernel))
        · first | exact Or.inl (hs _ (by decide +kernel)) | exact Or.inr (hs _ (by decide +kernel))
      · rcases (show j = 0 ∨ j = 1 ∨ j = 2 ∨ j = 3 ∨ j = 4 ∨ j = 5 ∨ j = 6 ∨ j = 7 by omega) with rfl | rfl | rfl | rfl | rfl | rfl | rfl | rfl
        · first | exact Or.inl (hs _ (by decide +kernel)) | exact Or.inr (hs _ (by decide +kernel))
        · exact absurd rfl hne
        · first | exact Or.inl (hs _ (by decide +kernel)) | exact Or.inr (hs _ (by decide +kernel))
        · first | exact Or.inl (hs _ (by decide +kernel)) | exact Or.inr (hs _ (by decide +kernel))
        · first | exact Or.inl (hs _ (by decide +kernel)) | exact Or.inr (hs _ (by decide +kernel))
        · first | exact Or.inl (hs _ (by decide +kernel)) | exact Or.inr (hs _ (by decide +kernel))
        · first | exact Or.inl (hs _ (by decide +kernel)) | exact Or.inr (hs _ (by decide +kernel))
        · first | exact Or.inl (hs _ (by decide +kernel)) | exact Or.inr (hs _ (by decide +kernel))
      · rcases (show j = 0 ∨ j = 1 ∨ j = 2 ∨ j = 3 ∨ j = 4 ∨ j = 5 ∨ j = 6 ∨ j = 7 by omega) with rfl | rfl | rfl | rfl | rfl | rfl | rfl | rfl
        · first | exact Or.inl (hs _ (by decide +kernel)) | exact Or.inr (hs _ (by decide +kernel))
        · first | exact Or.inl (hs _ (by decide +kernel)) | exact Or.inr (hs _ (by decide +kernel))
        · exact absurd rfl hne
        · first | exact Or.inl (hs _ (by decide +kernel)) | exact Or.inr (hs _ (by decide +kernel))
        · first | exact Or.inl (hs _ (by decide +kernel)) | exact Or.inr (hs _ (by decide +kernel))
        · first | exact Or.inl (hs _ (by decide +kernel)) | exact Or.inr (hs _ (by decide +kernel))
        · first | exact Or.inl (hs _ (by decide +kernel)) | exact Or.inr (hs _ (by decide +kernel))
        · first | exact Or.inl (hs _ (by decide +kernel)) | exact Or.inr (hs _ (by decide +kernel))
      · rcases (show j = 0 ∨ j = 1 ∨ j = 2 ∨ j = 3 ∨ j = 4 ∨ j = 5 ∨ j = 6 ∨ j = 7 by omega) with rfl | rfl | rfl | rfl | rfl | rfl | rfl | rfl
        · first | exact Or.inl (hs _ (by decide +kernel)) | exact Or.inr (hs _ (by decide +kernel))
        · first | exact Or.inl (hs _ (by decide +kernel)) | exact Or.inr (hs _ (by decide +kernel))
        · first | exact Or.inl (hs _ (by decide +kernel)) | exact Or.inr (hs _ (by decide +kernel))
        · exact absurd rfl hne
        · first | exact Or.inl (hs _ (by decide +kernel)) | exact Or.inr (hs _ (by decide +kernel))
        · first | exact Or.inl (hs _ (by decide +kernel)) | exact Or.inr (hs _ (by decide +kernel))
        · first | exact Or.inl (hs _ (by decide +kernel)) | exact Or.inr (hs _ (by decide +kernel))
        · first | exact Or.inl (hs _ (by decide +kernel)) | exact Or.inr (hs _ (by decide +kernel))
      · rcases (show j = 0 ∨ j = 1 ∨ j = 2 ∨ j = 3 ∨ j = 4 ∨ j = 5 ∨ j = 6 ∨ j = 7 by omega) with rfl | rfl | rfl | rfl | rfl | rfl | rfl | rfl
        · first | exact Or.inl (hs _ (by decide +kernel)) | exact Or.inr (hs _ (by decide +kernel))
        · first | exact Or.inl (hs _ (by decide +kernel)) | exact Or.inr (hs _ (by decide +kernel))
        · first | exact Or.inl (hs _ (by decide +kernel)) | exact Or.inr (hs _ (by decide +kernel))
        · first | exact Or.inl (hs _ (by decide +kernel)) | exact Or.inr (hs _ (by decide +kernel))
        · exact absurd rfl hne
        · first | exact Or.inl (hs _ (by decide +kernel)) | exact Or.inr (hs _ (by decide +kernel))
        · first | exact Or.inl (hs _ (by decide +kernel)) | exact Or.inr (hs _ (by decide +kernel))
        · first | exact Or.inl (hs _ (by decide +kernel)) | exact Or.inr (hs _ (by decide +kernel))
      · rcases (show j = 0 ∨ j = 1 ∨ j = 2 ∨ j = 3 ∨ j = 4 ∨ j = 5 ∨ j = 6 ∨ j = 7 by omega) with rfl | rfl | rfl | rfl | rfl | rfl | rfl | rfl
        · first | exact Or.inl (hs _ (by decide +kernel)) | exact Or.inr (hs _ (by decide +kernel))
        · first | exact Or.inl (hs _ (by decide +kernel)) | exact Or.inr (hs _ (by decide +kernel))
        · first | exact Or.inl (hs _ (by decide +kernel)) | exact Or.inr (hs _ (by decide +kernel))
        · first | exact Or.inl (hs _ (by decide +kernel)) | exact Or.inr (hs _ (by decide +kernel))
        · first | exact Or.inl (hs _ (by decide +kernel)) | exact Or.inr (hs _ (by decide +kernel))
        · exact absurd rfl hne
        · first | exact Or.inl (hs _ (by decide +kernel)) | exact Or.inr (hs _ (by decide +kernel))
        · first | exact Or.inl (hs _ (by decide +kernel)) | exact Or.inr (hs _ (by decide +kernel))
      · rcases (show j = 0 ∨ j = 1 ∨ j = 2 ∨ j = 3 ∨ j = 4 ∨ j = 5 ∨ j = 6 ∨ j = 7 by omega) with rfl | rfl | rfl | rfl | rfl | rfl | rfl | rfl
        · first | exact Or.inl (hs _ (by decide +kernel)) | exact Or.inr (hs _ (by decide +kernel))
        · first | exact Or.inl (hs _ (by decide +kernel)) | exact Or.inr (hs _ (by decide +kernel))
        · first | exact Or.inl (hs _ (by decide +kernel)) | exact Or.inr (hs _ (by decide +kernel))
        · first | exact Or.inl (hs _ (by decide +kernel)) | exact Or.inr (hs _ (by decide +kernel))
        · first | exact Or.inl (hs _ (by decide +kernel)) | exact Or.inr (hs _ (by decide +kernel))
        · first | exact Or.inl (hs _ (by decide +kernel)) | exact Or.inr (hs _ (by decide +kernel))
        · exact absurd rfl hne
        · first | exact Or.inl (hs _ (by decide +kernel)) | exact Or.inr (hs _ (by decide +kernel))
      · rcases (show j = 0 ∨ j = 1 ∨ j = 2 ∨ j = 3 ∨ j = 4 ∨ j = 5 ∨ j = 6 ∨ j = 7 by omega) with rfl | rfl | rfl | rfl | rfl | rfl | rfl | rfl
        · first | exact Or.inl (hs _ (by decide +kernel)) | exact Or.inr (hs _ (by decide +kernel))
        · first | exact Or.inl (hs _ (by decide +kernel)) | exact Or.inr (hs _ (by decide +kernel))
        · first | exact Or.inl (hs _ (by decide +kernel)) | exact Or.inr (hs _ (by decide +kernel))
        · first | exact Or.inl (hs _ (by decide +kernel)) | exact Or.inr (hs _ (by decide +kernel))
        · first | exact Or.inl (hs _ (by decide +kernel)) | exact Or.inr (hs _ (by decide +kernel))
        · first | exact Or.inl (hs _ (by decide +kernel)) | exact Or.inr (hs _ (by decide +kernel))
        · first | exact Or.inl (hs _ (by decide +kernel)) | exact Or.inr (hs _ (by decide +kernel))
        · exact absurd rfl hne) hA
  have hR : ∀ i : Nat, i < 8 → vk_R RX4 (tx_ix.getD i (0, "")).1 (tx_ix.getD i (0, "")).2 (adK i) s := by
    intro i hi
    refine vk_R.of (A := #[Value.ref b]) ?_ (hev i hi)
    rcases (show i = 0 ∨ i = 1 ∨ i = 2 ∨ i = 3 ∨ i = 4 ∨ i = 5 ∨ i = 6 ∨ i = 7 by omega) with rfl | rfl | rfl | rfl | rfl | rfl | rfl | rfl
    · exact hts (.stringRef RX4 15 "clock") (List.mem_append_right _ (List.mem_append_left _ (List.mem_of_getElem? (i := 34) rfl)))
    · exact hts (.stringRef RX4 21 "place") (List.mem_append_right _ (List.mem_append_left _ (List.mem_of_getElem? (i := 86) rfl)))
    · exact hts (.stringRef RX4 23 "urgent") (List.mem_append_right _ (List.mem_append_left _ (List.mem_of_getElem? (i := 87) rfl)))
    · exact hts (.stringRef RX4 25 "until") (List.mem_append_right _ (List.mem_append_left _ (List.mem_of_getElem? (i := 88) rfl)))
    · exact hts (.stringRef RX4 27 "start") (List.mem_append_right _ (List.mem_append_left _ (List.mem_of_getElem? (i := 89) rfl)))
    · exact hts (.stringRef RX4 29 "edge") (List.mem_append_right _ (List.mem_append_left _ (List.mem_of_getElem? (i := 90) rfl)))
    · exact hts (.stringRef RX4 31 "when") (List.mem_append_right _ (List.mem_append_left _ (List.mem_of_getElem? (i := 91) rfl)))
    · exact hts (.stringRef RX4 33 "reset") (List.mem_append_right _ (List.mem_append_left _ (List.mem_of_getElem? (i := 92) rfl)))
  have hC : va_Z "java/lang/String" "COMPACT_STRINGS" "Z" (.int 1) A s s.heap := va_Zof (args := #[Value.ref b]) (hts (.laysStatic "java/lang/String" "COMPACT_STRINGS" "Z") (List.mem_append_right _ (List.mem_append_left _ (List.mem_of_getElem? (i := 47) rfl)))) (hts (.initialized "java/lang/String") (List.mem_append_right _ (List.mem_append_left _ (List.mem_of_getElem? (i := 3) rfl)))) (va_eqi (hs _ (by decide +kernel))) hA
  have hF : va_Zq "jdk/internal/util/Preconditions" "SIOOBE_FORMATTER" "Ljava/util/function/BiFunction;" A s s.heap := va_Zqof (args := #[Value.ref b]) (hts (.laysStatic "jdk/internal/util/Preconditions" "SIOOBE_FORMATTER" "Ljava/util/function/BiFunction;") (List.mem_append_right _ (List.mem_append_left _ (List.mem_of_getElem? (i := 63) rfl)))) (hts (.initialized "jdk/internal/util/Preconditions") (List.mem_append_right _ (List.mem_append_left _ (List.mem_of_getElem? (i := 5) rfl)))) (hs _ (by decide +kernel)) hA
  have hO : va_AO RX7 s := va_AO.of (A := #[Value.ref b]) (hts (.arrayOver (.object RX7)) (List.mem_append_right _ (List.mem_append_right _ (List.mem_append_left _ (List.mem_of_getElem? (i := 28) rfl)))))
  rcases hF with h | ⟨t, h⟩
  · exact ⟨adK, adV, none, hO, hv, hR, hC, h⟩
  · exact ⟨adK, adV, some t, hO, hv, hR, hC, h⟩
theorem law_Y {p : Program} {e : Env} {s : State} {m : MethodId} {below : List Frame} {meth : Method} {c : Code} {b L : Nat} {xs : Nat → Int32} (C0 : lw_At p s m meth c b L xs) {A : Nat → Prop} (hA : ∀ a : Nat, a < s.heap.size → ¬ A a) : sy_E A s s.heap := by
  obtain ⟨hx, hb, hr, hml, hown, hts, hX, hbl, hlocks, hgv⟩ := C0
  have hs := flat_of_before _ hgv
  exact ⟨va_Nw.of rfl (hts (.declares (Bundle.init0 "java/lang/RuntimeException")) (List.mem_append_right _ (List.mem_append_right _ (List.mem_append_right _ (List.mem_append_right _ (List.mem_append_right _ (List.mem_append_left _ (List.mem_of_getElem? (i := 154) rfl)))))))), va_Nw.of rfl (hts (.declares (Bundle.init0 "java/lang/Exception")) (List.mem_append_right _ (List.mem_append_right _ (List.mem_append_right _ (List.mem_append_right _ (List.mem_append_right _ (List.mem_append_left _ (List.mem_of_getElem? (i := 156) rfl)))))))), va_Nw.of rfl (hts (.declares (Bundle.init0 Bundle.tN)) (List.mem_append_right _ (List.mem_append_right _ (List.mem_append_right _ (List.mem_append_right _ (List.mem_append_right _ (List.mem_append_left _ (List.mem_of_getElem? (i := 158) rfl)))))))), va_Nw.of rfl (hts (.castable "java/util/NoSuchElementException" "java/util/NoSuchElementException") (List.mem_append_right _ (List.mem_append_right _ (List.mem_append_right _ (List.mem_append_right _ (List.mem_append_right _ (List.mem_append_left _ (List.mem_of_getElem? (i := 153) rfl)))))))), vx_Zqof (args := #[Value.ref b]) (hts (.laysStatic Bundle.tN "UNASSIGNED_STACK" Bundle.steD) (List.mem_append_right _ (List.mem_append_right _ (List.mem_append_right _ (List.mem_append_right _ (List.mem_append_right _ (List.mem_append_left _ (List.mem_of_getElem? (i := 178) rfl)))))))) (hts (.initialized Bundle.tN) (List.mem_append_right _ (List.mem_append_left _ (List.mem_of_getElem? (i := 16) rfl)))) (hs _ (by decide +kernel)) hA, vx_Zqof (args := #[Value.ref b]) (hts (.laysStatic Bundle.tN "SUPPRESSED_SENTINEL" Bundle.listD) (List.mem_append_right _ (List.mem_append_right _ (List.mem_append_right _ (List.mem_append_right _ (List.mem_append_right _ (List.mem_append_left _ (List.mem_of_getElem? (i := 180) rfl)))))))) (hts (.initialized Bundle.tN) (List.mem_append_right _ (List.mem_append_left _ (List.mem_of_getElem? (i := 16) rfl)))) (hs _ (by decide +kernel)) hA⟩
theorem law_exit {p : Program} {e : Env} {s : State} {m : MethodId} {below : List Frame} {meth : Method} {c : Code} (l : Launch) {b L : Nat} {xs : Nat → Int32} (C0 : lw_At p s m meth c b L xs) {A : Nat → Prop} (hA : ∀ q : Nat, s.heap.size ≤ q → A q) (hAs : ∀ q : Nat, A q → s.heap.size ≤ q) {H : Heap} {locs : List Loc} (hS : va_S A s.heap H locs) {ls : Array Slot} {cells slots : Nat} (h1 : cells ≤ 601024) (h2 : slots ≤ 7293034) : W p l e room_1 s m #[Value.ref b] below meth c H locs cells slots (lw_Z below #[Value.ref b] s) (F0 m 1703 ls []) := by
  obtain ⟨hx, hb, hr, hml, hown, hts, hX, hbl, hlocks, hgv⟩ := id C0
  refine lv_iconst (v := 1) hx hb dL_law_1703 (by decide) ?_
  refine va_forget (fun q hq => hAs _ (hS.2.2 q hq)) ?_
  refine W.widen (k := 601024) (n := 7293034) h1 h2 ?_
  exact lw_ret hx hb hr hlocks dL_law_1704
/-- the two objects and the row for answers -/
def LInv (D : va_G) (kI kB kQ kL : ClassId) (xa ma qo : Nat) (XA MA : Nat → Prop) (H : Heap) : Prop := ∃ (Sx : CX) (Sm : CMx), SR Sx Sm ∧ XInv D kI kB kQ xa XA Sx H ∧ MInv D kI kB ma MA Sm H ∧ ∃ fq : Nat → Int64, va_P D vwCl [(qo, .inl (kL, 1, .inr (.inl fq)))] H
/-- their cells are apart, and all new -/
def lw_dis (XA MA : Nat → Prop) (qo : Nat) (A : Nat → Prop) : Prop := (∀ q, XA q → A q) ∧ (∀ q, MA q → A q) ∧ A qo ∧ (∀ q, XA q → ¬ MA q) ∧ ¬ XA qo ∧ ¬ MA qo
theorem lx_A {XA A : Nat → Prop} {H0 H : Heap} {locs : List Loc} (h : ∀ q, XA q → A q) (hA : ∀ q : Nat, H0.size ≤ q → A q) (hS : va_S A H0 H locs) : ∀ q, xA XA H.size q → A q := fun q g => by
  rcases g with g | g
  · exact h q g
  · exact hA q (Nat.le_trans hS.1 g)
theorem lx_no {XA MA : Nat → Prop} {n q : Nat} (h : ∀ q, XA q → ¬ MA q) (hq : q < n) (hm : MA q) : ¬ xA XA n q := fun g => by
  rcases g with g | g
  · exact h q g hm
  · omega
theorem lx_o {D : va_G} {XA : Nat → Prop} {qo : Nat} {kL : ClassId} {fq : Nat → Int64} {H H1 : Heap} (hP : va_P D vwCl [(qo, .inl (kL, 1, .inr (.inl fq)))] H) (h : ¬ XA qo) (hk : ∀ q : Nat, q < H.size → ¬ xA XA H.size q → H1[q]? = H[q]?) : va_P D vwCl [(qo, .inl (kL, 1, .inr (.inl fq)))] H1 := hP.kept (fun k q hq => by
  match k, hq with
  | 0, hq =>
    cases hq
    have hl : qo < H.size := (hP 0 _ rfl).lt
    exact hk qo hl (fun g => by
      rcases g with g | g
      · exact h g
      · omega)
  | k + 1, hq => cases hq)
theorem k3_of {D : va_G} {kI kB kQ kL : ClassId} {U : State} (hK : va_K D vwCl (k3 kI kB kQ ++ [(kL, .long)]) U) : va_K D vwCl (k3 kI kB kQ) U := hK.sub [0, 1, 2] rfl
theorem kBL_in {D : va_G} {kI kB kQ kL : ClassId} {J : Heap → Prop} {qo : Nat} {OA A : Nat → Prop} {s : State} {H : Heap} {locs : List Loc} {av : List Value} (hJ : J H) (hK : va_K D vwCl (k3 kI kB kQ ++ [(kL, .long)]) s) (hY : sy_E A s s.heap) (hS : va_S A s.heap H locs) (hA : ∀ q : Nat, s.heap.size ≤ q → A q) (hq : A qo) {fq : Nat → Int64} (hPo : va_P D vwCl [(qo, .inl (kL, 1, .inr (.inl fq)))] H) : ∀ U : State, U.heap = H → s.WarmedH U.vm → va_Pc av (kB_L D kI kB kQ kL J qo OA A H.size) av.toArray U := by
  intro U hU hW
  obtain ⟨e1, e2, e3, e4, e5, e6⟩ := hY
  have hF : ∀ q : Nat, (q = qo ∨ H.size ≤ q) → A q := fun q h => by
    rcases h with rfl | h
    · exact hq
    · exact hA q (Nat.le_trans hS.1 h)
  refine ⟨rfl, by rw [hU], by rw [hU]; exact hJ, va_K.moved hW.alike hK, ⟨va_Nw.warmD hW e1, va_Nw.warmD hW e2, va_Nw.warmD hW e3, va_Nw.warmC hW e4, ?_, ?_⟩, fq, by rw [hU]; exact hPo⟩
  · rw [hU]; exact vx_Zq.moved hW.alike ((e5.kept hS.2.1).narrow hF)
  · rw [hU]; exact vx_Zq.moved hW.alike ((e6.kept hS.2.1).narrow hF)
theorem kBL_bl {D : va_G} {kI kB kQ kL : ClassId} {J : Heap → Prop} {qo : Nat} {OA A : Nat → Prop} {sz : Nat} {av : List Value} : FrameBlind (va_Pc av (kB_L D kI kB kQ kL J qo OA A sz)) := by
  intro a U g mk q
  obtain ⟨q0, q1, qJ, qK, ⟨e1, e2, e3, e4, e5, e6⟩, qo⟩ := q
  exact ⟨q0, q1, qJ, va_K.moved (u := U) (U := U.calling g mk a) (Vm.Alike.refl U.vm) qK, ⟨va_Nw.same (u := U) rfl rfl e1, va_Nw.same (u := U) rfl rfl e2, va_Nw.same (u := U) rfl rfl e3, va_Nw.same (u := U) rfl rfl e4, vx_Zq.moved (u := U) (U := U.calling g mk a) (Vm.Alike.refl U.vm) e5, vx_Zq.moved (u := U) (U := U.calling g mk a) (Vm.Alike.refl U.vm) e6⟩, qo⟩
theorem law_test {L k : Nat} (hL : L ≤ 3584) (hk : k ≤ 600) (h : ¬ (nI L - 7 < nI (7 * k))) : 7 * k + 7 ≤ L := by
  rcases Nat.lt_or_ge L 7 with g | g
  · have h2 : ∀ L : Nat, L < 7 → (nI L - 7 < (0 : Int32)) := by decide +kernel
    have h3 := h2 L g
    exfalso
    apply h
    rw [fa_lt] at h3 ⊢
    rw [nI_toInt (by omega)]
    have y0 : (0 : Int32).toInt = 0 := by decide
    omega
  · have e : nI L - 7 = nI (L - 7) := pk_sub (a := L) (b := 7) (by omega)
    rw [e, nI_ltI (by omega) (by omega)] at h
    omega
theorem law_and (x : Int32) : ∃ n : Nat, n < 64 ∧ x &&& 63 = nI n := by
  obtain ⟨n, hn, en⟩ := pk_andE x (m := 63) 6 (by decide)
  exact ⟨n, hn, en⟩
