theorem d_Lw_980 {nm : String} : dd (m_Lw nm) 980 .iadd 1 981 := ⟨show decode code 980 = .ok (.iadd, 1) by decide +kernel, rfl⟩
theorem d_Lw_981 {nm : String} : dd (m_Lw nm) 981 .iaload 1 982 := ⟨show decode code 981 = .ok (.iaload, 1) by decide +kernel, rfl⟩
theorem d_Lw_982 {nm : String} : dd (m_Lw nm) 982 (.aload_n 0) 1 983 := ⟨show decode code 982 = .ok (.aload_n 0, 1) by decide +kernel, rfl⟩
theorem d_Lw_983 {nm : String} : dd (m_Lw nm) 983 (.iload 4) 2 985 := ⟨show decode code 983 = .ok (.iload 4, 2) by decide +kernel, rfl⟩
theorem d_Lw_985 {nm : String} : dd (m_Lw nm) 985 (.iconst 3) 1 986 := ⟨show decode code 985 = .ok (.iconst 3, 1) by decide +kernel, rfl⟩
theorem d_Lw_986 {nm : String} : dd (m_Lw nm) 986 .iadd 1 987 := ⟨show decode code 986 = .ok (.iadd, 1) by decide +kernel, rfl⟩
theorem d_Lw_987 {nm : String} : dd (m_Lw nm) 987 .iaload 1 988 := ⟨show decode code 987 = .ok (.iaload, 1) by decide +kernel, rfl⟩
theorem d_Lw_988 {nm : String} : dd (m_Lw nm) 988 (.invokevirtual 103) 3 991 := ⟨show decode code 988 = .ok (.invokevirtual 103, 3) by decide +kernel, rfl⟩
theorem d_Lw_991 {nm : String} : dd (m_Lw nm) 991 (.istore 6) 2 993 := ⟨show decode code 991 = .ok (.istore 6, 2) by decide +kernel, rfl⟩
theorem d_Lw_993 {nm : String} : dd (m_Lw nm) 993 (.aload_n 2) 1 994 := ⟨show decode code 993 = .ok (.aload_n 2, 1) by decide +kernel, rfl⟩
theorem d_Lw_994 {nm : String} : dd (m_Lw nm) 994 (.invokevirtual 78) 3 997 := ⟨show decode code 994 = .ok (.invokevirtual 78, 3) by decide +kernel, rfl⟩
theorem d_Lw_997 {nm : String} : dd (m_Lw nm) 997 (.iload 5) 2 999 := ⟨show decode code 997 = .ok (.iload 5, 2) by decide +kernel, rfl⟩
theorem d_Lw_999 {nm : String} : db (m_Lw nm) 999 (.if_icmp .eq) 1002 1004 := ⟨5, show decode code 999 = .ok (.if_icmp .eq 5, 3) by decide +kernel, rfl, rfl⟩
theorem d_Lw_1002 {nm : String} : dd (m_Lw nm) 1002 (.iconst 0) 1 1003 := ⟨show decode code 1002 = .ok (.iconst 0, 1) by decide +kernel, rfl⟩
theorem d_Lw_1003 {nm : String} : decode (mbt (m_Lw nm)) 1003 = .ok (.ireturn, 1) := show decode code 1003 = .ok (.ireturn, 1) by decide +kernel
theorem d_Lw_1004 {nm : String} : dd (m_Lw nm) 1004 (.iload 5) 2 1006 := ⟨show decode code 1004 = .ok (.iload 5, 2) by decide +kernel, rfl⟩
theorem d_Lw_1006 {nm : String} : db (m_Lw nm) 1006 (.ifCond .ne) 1009 1021 := ⟨15, show decode code 1006 = .ok (.ifCond .ne 15, 3) by decide +kernel, rfl, rfl⟩
theorem d_Lw_1009 {nm : String} : dd (m_Lw nm) 1009 (.aload_n 3) 1 1010 := ⟨show decode code 1009 = .ok (.aload_n 3, 1) by decide +kernel, rfl⟩
theorem d_Lw_1010 {nm : String} : dd (m_Lw nm) 1010 (.iconst 0) 1 1011 := ⟨show decode code 1010 = .ok (.iconst 0, 1) by decide +kernel, rfl⟩
theorem d_Lw_1011 {nm : String} : dd (m_Lw nm) 1011 .laload 1 1012 := ⟨show decode code 1011 = .ok (.laload, 1) by decide +kernel, rfl⟩
theorem d_Lw_1012 {nm : String} : dd (m_Lw nm) 1012 (.iload 6) 2 1014 := ⟨show decode code 1012 = .ok (.iload 6, 2) by decide +kernel, rfl⟩
theorem d_Lw_1014 {nm : String} : dd (m_Lw nm) 1014 .i2l 1 1015 := ⟨show decode code 1014 = .ok (.i2l, 1) by decide +kernel, rfl⟩
theorem d_Lw_1015 {nm : String} : dd (m_Lw nm) 1015 .lcmp 1 1016 := ⟨show decode code 1015 = .ok (.lcmp, 1) by decide +kernel, rfl⟩
theorem d_Lw_1016 {nm : String} : db (m_Lw nm) 1016 (.ifCond .eq) 1019 1021 := ⟨5, show decode code 1016 = .ok (.ifCond .eq 5, 3) by decide +kernel, rfl, rfl⟩
theorem d_Lw_1019 {nm : String} : dd (m_Lw nm) 1019 (.iconst 0) 1 1020 := ⟨show decode code 1019 = .ok (.iconst 0, 1) by decide +kernel, rfl⟩
theorem d_Lw_1020 {nm : String} : decode (mbt (m_Lw nm)) 1020 = .ok (.ireturn, 1) := show decode code 1020 = .ok (.ireturn, 1) by decide +kernel
theorem d_Lw_1021 {nm : String} : db (m_Lw nm) 1021 .goto 1024 1396 := ⟨375, show decode code 1021 = .ok (.goto 375, 3) by decide +kernel, rfl, rfl⟩
theorem d_Lw_1024 {nm : String} : dd (m_Lw nm) 1024 (.aload_n 1) 1 1025 := ⟨show decode code 1024 = .ok (.aload_n 1, 1) by decide +kernel, rfl⟩
theorem d_Lw_1025 {nm : String} : dd (m_Lw nm) 1025 (.aload_n 0) 1 1026 := ⟨show decode code 1025 = .ok (.aload_n 0, 1) by decide +kernel, rfl⟩
theorem d_Lw_1026 {nm : String} : dd (m_Lw nm) 1026 (.iload 4) 2 1028 := ⟨show decode code 1026 = .ok (.iload 4, 2) by decide +kernel, rfl⟩
theorem d_Lw_1028 {nm : String} : dd (m_Lw nm) 1028 (.iconst 1) 1 1029 := ⟨show decode code 1028 = .ok (.iconst 1, 1) by decide +kernel, rfl⟩
theorem d_Lw_1029 {nm : String} : dd (m_Lw nm) 1029 .iadd 1 1030 := ⟨show decode code 1029 = .ok (.iadd, 1) by decide +kernel, rfl⟩
theorem d_Lw_1030 {nm : String} : dd (m_Lw nm) 1030 .iaload 1 1031 := ⟨show decode code 1030 = .ok (.iaload, 1) by decide +kernel, rfl⟩
theorem d_Lw_1031 {nm : String} : dd (m_Lw nm) 1031 (.invokevirtual 104) 3 1034 := ⟨show decode code 1031 = .ok (.invokevirtual 104, 3) by decide +kernel, rfl⟩
theorem d_Lw_1034 {nm : String} : dd (m_Lw nm) 1034 (.aload_n 2) 1 1035 := ⟨show decode code 1034 = .ok (.aload_n 2, 1) by decide +kernel, rfl⟩
theorem d_Lw_1035 {nm : String} : dd (m_Lw nm) 1035 (.aload_n 0) 1 1036 := ⟨show decode code 1035 = .ok (.aload_n 0, 1) by decide +kernel, rfl⟩
theorem d_Lw_1036 {nm : String} : dd (m_Lw nm) 1036 (.iload 4) 2 1038 := ⟨show decode code 1036 = .ok (.iload 4, 2) by decide +kernel, rfl⟩
theorem d_Lw_1038 {nm : String} : dd (m_Lw nm) 1038 (.iconst 1) 1 1039 := ⟨show decode code 1038 = .ok (.iconst 1, 1) by decide +kernel, rfl⟩
theorem d_Lw_1039 {nm : String} : dd (m_Lw nm) 1039 .iadd 1 1040 := ⟨show decode code 1039 = .ok (.iadd, 1) by decide +kernel, rfl⟩
theorem d_Lw_1040 {nm : String} : dd (m_Lw nm) 1040 .iaload 1 1041 := ⟨show decode code 1040 = .ok (.iaload, 1) by decide +kernel, rfl⟩
theorem d_Lw_1041 {nm : String} : dd (m_Lw nm) 1041 (.invokevirtual 107) 3 1044 := ⟨show decode code 1041 = .ok (.invokevirtual 107, 3) by decide +kernel, rfl⟩
theorem d_Lw_1044 {nm : String} : db (m_Lw nm) 1044 (.if_icmp .eq) 1047 1396 := ⟨352, show decode code 1044 = .ok (.if_icmp .eq 352, 3) by decide +kernel, rfl, rfl⟩
theorem d_Lw_1047 {nm : String} : dd (m_Lw nm) 1047 (.iconst 0) 1 1048 := ⟨show decode code 1047 = .ok (.iconst 0, 1) by decide +kernel, rfl⟩
theorem d_Lw_1048 {nm : String} : decode (mbt (m_Lw nm)) 1048 = .ok (.ireturn, 1) := show decode code 1048 = .ok (.ireturn, 1) by decide +kernel
theorem d_Lw_1049 {nm : String} : dd (m_Lw nm) 1049 (.aload_n 1) 1 1050 := ⟨show decode code 1049 = .ok (.aload_n 1, 1) by decide +kernel, rfl⟩
theorem d_Lw_1050 {nm : String} : dd (m_Lw nm) 1050 (.aload_n 0) 1 1051 := ⟨show decode code 1050 = .ok (.aload_n 0, 1) by decide +kernel, rfl⟩
theorem d_Lw_1051 {nm : String} : dd (m_Lw nm) 1051 (.iload 4) 2 1053 := ⟨show decode code 1051 = .ok (.iload 4, 2) by decide +kernel, rfl⟩
theorem d_Lw_1053 {nm : String} : dd (m_Lw nm) 1053 (.iconst 1) 1 1054 := ⟨show decode code 1053 = .ok (.iconst 1, 1) by decide +kernel, rfl⟩
theorem d_Lw_1054 {nm : String} : dd (m_Lw nm) 1054 .iadd 1 1055 := ⟨show decode code 1054 = .ok (.iadd, 1) by decide +kernel, rfl⟩
theorem d_Lw_1055 {nm : String} : dd (m_Lw nm) 1055 .iaload 1 1056 := ⟨show decode code 1055 = .ok (.iaload, 1) by decide +kernel, rfl⟩
theorem d_Lw_1056 {nm : String} : dd (m_Lw nm) 1056 (.aload_n 0) 1 1057 := ⟨show decode code 1056 = .ok (.aload_n 0, 1) by decide +kernel, rfl⟩
theorem d_Lw_1057 {nm : String} : dd (m_Lw nm) 1057 (.iload 4) 2 1059 := ⟨show decode code 1057 = .ok (.iload 4, 2) by decide +kernel, rfl⟩
theorem d_Lw_1059 {nm : String} : dd (m_Lw nm) 1059 (.iconst 2) 1 1060 := ⟨show decode code 1059 = .ok (.iconst 2, 1) by decide +kernel, rfl⟩
theorem d_Lw_1060 {nm : String} : dd (m_Lw nm) 1060 .iadd 1 1061 := ⟨show decode code 1060 = .ok (.iadd, 1) by decide +kernel, rfl⟩
theorem d_Lw_1061 {nm : String} : dd (m_Lw nm) 1061 .iaload 1 1062 := ⟨show decode code 1061 = .ok (.iaload, 1) by decide +kernel, rfl⟩
theorem d_Lw_1062 {nm : String} : dd (m_Lw nm) 1062 (.aload_n 0) 1 1063 := ⟨show decode code 1062 = .ok (.aload_n 0, 1) by decide +kernel, rfl⟩
theorem d_Lw_1063 {nm : String} : dd (m_Lw nm) 1063 (.iload 4) 2 1065 := ⟨show decode code 1063 = .ok (.iload 4, 2) by decide +kernel, rfl⟩
theorem d_Lw_1065 {nm : String} : dd (m_Lw nm) 1065 (.iconst 3) 1 1066 := ⟨show decode code 1065 = .ok (.iconst 3, 1) by decide +kernel, rfl⟩
theorem d_Lw_1066 {nm : String} : dd (m_Lw nm) 1066 .iadd 1 1067 := ⟨show decode code 1066 = .ok (.iadd, 1) by decide +kernel, rfl⟩
theorem d_Lw_1067 {nm : String} : dd (m_Lw nm) 1067 .iaload 1 1068 := ⟨show decode code 1067 = .ok (.iaload, 1) by decide +kernel, rfl⟩
theorem d_Lw_1068 {nm : String} : dd (m_Lw nm) 1068 (.invokevirtual 108) 3 1071 := ⟨show decode code 1068 = .ok (.invokevirtual 108, 3) by decide +kernel, rfl⟩
theorem d_Lw_1071 {nm : String} : dd (m_Lw nm) 1071 (.aload_n 2) 1 1072 := ⟨show decode code 1071 = .ok (.aload_n 2, 1) by decide +kernel, rfl⟩
theorem d_Lw_1072 {nm : String} : dd (m_Lw nm) 1072 (.aload_n 0) 1 1073 := ⟨show decode code 1072 = .ok (.aload_n 0, 1) by decide +kernel, rfl⟩
theorem d_Lw_1073 {nm : String} : dd (m_Lw nm) 1073 (.iload 4) 2 1075 := ⟨show decode code 1073 = .ok (.iload 4, 2) by decide +kernel, rfl⟩
theorem d_Lw_1075 {nm : String} : dd (m_Lw nm) 1075 (.iconst 1) 1 1076 := ⟨show decode code 1075 = .ok (.iconst 1, 1) by decide +kernel, rfl⟩
theorem d_Lw_1076 {nm : String} : dd (m_Lw nm) 1076 .iadd 1 1077 := ⟨show decode code 1076 = .ok (.iadd, 1) by decide +kernel, rfl⟩
theorem d_Lw_1077 {nm : String} : dd (m_Lw nm) 1077 .iaload 1 1078 := ⟨show decode code 1077 = .ok (.iaload, 1) by decide +kernel, rfl⟩
theorem d_Lw_1078 {nm : String} : dd (m_Lw nm) 1078 (.aload_n 0) 1 1079 := ⟨show decode code 1078 = .ok (.aload_n 0, 1) by decide +kernel, rfl⟩
theorem d_Lw_1079 {nm : String} : dd (m_Lw nm) 1079 (.iload 4) 2 1081 := ⟨show decode code 1079 = .ok (.iload 4, 2) by decide +kernel, rfl⟩
theorem d_Lw_1081 {nm : String} : dd (m_Lw nm) 1081 (.iconst 2) 1 1082 := ⟨show decode code 1081 = .ok (.iconst 2, 1) by decide +kernel, rfl⟩
theorem d_Lw_1082 {nm : String} : dd (m_Lw nm) 1082 .iadd 1 1083 := ⟨show decode code 1082 = .ok (.iadd, 1) by decide +kernel, rfl⟩
theorem d_Lw_1083 {nm : String} : dd (m_Lw nm) 1083 .iaload 1 1084 := ⟨show decode code 1083 = .ok (.iaload, 1) by decide +kernel, rfl⟩
theorem d_Lw_1084 {nm : String} : dd (m_Lw nm) 1084 (.aload_n 0) 1 1085 := ⟨show decode code 1084 = .ok (.aload_n 0, 1) by decide +kernel, rfl⟩
theorem d_Lw_1085 {nm : String} : dd (m_Lw nm) 1085 (.iload 4) 2 1087 := ⟨show decode code 1085 = .ok (.iload 4, 2) by decide +kernel, rfl⟩
theorem d_Lw_1087 {nm : String} : dd (m_Lw nm) 1087 (.iconst 3) 1 1088 := ⟨show decode code 1087 = .ok (.iconst 3, 1) by decide +kernel, rfl⟩
theorem d_Lw_1088 {nm : String} : dd (m_Lw nm) 1088 .iadd 1 1089 := ⟨show decode code 1088 = .ok (.iadd, 1) by decide +kernel, rfl⟩
theorem d_Lw_1089 {nm : String} : dd (m_Lw nm) 1089 .iaload 1 1090 := ⟨show decode code 1089 = .ok (.iaload, 1) by decide +kernel, rfl⟩
theorem d_Lw_1090 {nm : String} : dd (m_Lw nm) 1090 (.invokevirtual 111) 3 1093 := ⟨show decode code 1090 = .ok (.invokevirtual 111, 3) by decide +kernel, rfl⟩
theorem d_Lw_1093 {nm : String} : db (m_Lw nm) 1093 (.if_icmp .eq) 1096 1396 := ⟨303, show decode code 1093 = .ok (.if_icmp .eq 303, 3) by decide +kernel, rfl, rfl⟩
theorem d_Lw_1096 {nm : String} : dd (m_Lw nm) 1096 (.iconst 0) 1 1097 := ⟨show decode code 1096 = .ok (.iconst 0, 1) by decide +kernel, rfl⟩
theorem d_Lw_1097 {nm : String} : decode (mbt (m_Lw nm)) 1097 = .ok (.ireturn, 1) := show decode code 1097 = .ok (.ireturn, 1) by decide +kernel
theorem d_Lw_1098 {nm : String} : dd (m_Lw nm) 1098 (.aload_n 1) 1 1099 := ⟨show decode code 1098 = .ok (.aload_n 1, 1) by decide +kernel, rfl⟩
theorem d_Lw_1099 {nm : String} : dd (m_Lw nm) 1099 (.aload_n 0) 1 1100 := ⟨show decode code 1099 = .ok (.aload_n 0, 1) by decide +kernel, rfl⟩
theorem d_Lw_1100 {nm : String} : dd (m_Lw nm) 1100 (.iload 4) 2 1102 := ⟨show decode code 1100 = .ok (.iload 4, 2) by decide +kernel, rfl⟩
theorem d_Lw_1102 {nm : String} : dd (m_Lw nm) 1102 (.iconst 1) 1 1103 := ⟨show decode code 1102 = .ok (.iconst 1, 1) by decide +kernel, rfl⟩
theorem d_Lw_1103 {nm : String} : dd (m_Lw nm) 1103 .iadd 1 1104 := ⟨show decode code 1103 = .ok (.iadd, 1) by decide +kernel, rfl⟩
theorem d_Lw_1104 {nm : String} : dd (m_Lw nm) 1104 .iaload 1 1105 := ⟨show decode code 1104 = .ok (.iaload, 1) by decide +kernel, rfl⟩
theorem d_Lw_1105 {nm : String} : dd (m_Lw nm) 1105 (.aload_n 0) 1 1106 := ⟨show decode code 1105 = .ok (.aload_n 0, 1) by decide +kernel, rfl⟩
theorem d_Lw_1106 {nm : String} : dd (m_Lw nm) 1106 (.iload 4) 2 1108 := ⟨show decode code 1106 = .ok (.iload 4, 2) by decide +kernel, rfl⟩
theorem d_Lw_1108 {nm : String} : dd (m_Lw nm) 1108 (.iconst 2) 1 1109 := ⟨show decode code 1108 = .ok (.iconst 2, 1) by decide +kernel, rfl⟩
theorem d_Lw_1109 {nm : String} : dd (m_Lw nm) 1109 .iadd 1 1110 := ⟨show decode code 1109 = .ok (.iadd, 1) by decide +kernel, rfl⟩
theorem d_Lw_1110 {nm : String} : dd (m_Lw nm) 1110 .iaload 1 1111 := ⟨show decode code 1110 = .ok (.iaload, 1) by decide +kernel, rfl⟩
theorem d_Lw_1111 {nm : String} : dd (m_Lw nm) 1111 (.aload_n 0) 1 1112 := ⟨show decode code 1111 = .ok (.aload_n 0, 1) by decide +kernel, rfl⟩
theorem d_Lw_1112 {nm : String} : dd (m_Lw nm) 1112 (.iload 4) 2 1114 := ⟨show decode code 1112 = .ok (.iload 4, 2) by decide +kernel, rfl⟩
theorem d_Lw_1114 {nm : String} : dd (m_Lw nm) 1114 (.iconst 3) 1 1115 := ⟨show decode code 1114 = .ok (.iconst 3, 1) by decide +kernel, rfl⟩
theorem d_Lw_1115 {nm : String} : dd (m_Lw nm) 1115 .iadd 1 1116 := ⟨show decode code 1115 = .ok (.iadd, 1) by decide +kernel, rfl⟩
theorem d_Lw_1116 {nm : String} : dd (m_Lw nm) 1116 .iaload 1 1117 := ⟨show decode code 1116 = .ok (.iaload, 1) by decide +kernel, rfl⟩
theorem d_Lw_1117 {nm : String} : dd (m_Lw nm) 1117 (.invokevirtual 112) 3 1120 := ⟨show decode code 1117 = .ok (.invokevirtual 112, 3) by decide +kernel, rfl⟩
theorem d_Lw_1120 {nm : String} : dd (m_Lw nm) 1120 (.aload_n 2) 1 1121 := ⟨show decode code 1120 = .ok (.aload_n 2, 1) by decide +kernel, rfl⟩
theorem d_Lw_1121 {nm : String} : dd (m_Lw nm) 1121 (.aload_n 0) 1 1122 := ⟨show decode code 1121 = .ok (.aload_n 0, 1) by decide +kernel, rfl⟩
theorem d_Lw_1122 {nm : String} : dd (m_Lw nm) 1122 (.iload 4) 2 1124 := ⟨show decode code 1122 = .ok (.iload 4, 2) by decide +kernel, rfl⟩
theorem d_Lw_1124 {nm : String} : dd (m_Lw nm) 1124 (.iconst 1) 1 1125 := ⟨show decode code 1124 = .ok (.iconst 1, 1) by decide +kernel, rfl⟩
theorem d_Lw_1125 {nm : String} : dd (m_Lw nm) 1125 .iadd 1 1126 := ⟨show decode code 1125 = .ok (.iadd, 1) by decide +kernel, rfl⟩
theorem d_Lw_1126 {nm : String} : dd (m_Lw nm) 1126 .iaload 1 1127 := ⟨show decode code 1126 = .ok (.iaload, 1) by decide +kernel, rfl⟩
theorem d_Lw_1127 {nm : String} : dd (m_Lw nm) 1127 (.aload_n 0) 1 1128 := ⟨show decode code 1127 = .ok (.aload_n 0, 1) by decide +kernel, rfl⟩
theorem d_Lw_1128 {nm : String} : dd (m_Lw nm) 1128 (.iload 4) 2 1130 := ⟨show decode code 1128 = .ok (.iload 4, 2) by decide +kernel, rfl⟩
theorem d_Lw_1130 {nm : String} : dd (m_Lw nm) 1130 (.iconst 2) 1 1131 := ⟨show decode code 1130 = .ok (.iconst 2, 1) by decide +kernel, rfl⟩
theorem d_Lw_1131 {nm : String} : dd (m_Lw nm) 1131 .iadd 1 1132 := ⟨show decode code 1131 = .ok (.iadd, 1) by decide +kernel, rfl⟩
theorem d_Lw_1132 {nm : String} : dd (m_Lw nm) 1132 .iaload 1 1133 := ⟨show decode code 1132 = .ok (.iaload, 1) by decide +kernel, rfl⟩
theorem d_Lw_1133 {nm : String} : dd (m_Lw nm) 1133 (.aload_n 0) 1 1134 := ⟨show decode code 1133 = .ok (.aload_n 0, 1) by decide +kernel, rfl⟩
theorem d_Lw_1134 {nm : String} : dd (m_Lw nm) 1134 (.iload 4) 2 1136 := ⟨show decode code 1134 = .ok (.iload 4, 2) by decide +kernel, rfl⟩
theorem d_Lw_1136 {nm : String} : dd (m_Lw nm) 1136 (.iconst 3) 1 1137 := ⟨show decode code 1136 = .ok (.iconst 3, 1) by decide +kernel, rfl⟩
theorem d_Lw_1137 {nm : String} : dd (m_Lw nm) 1137 .iadd 1 1138 := ⟨show decode code 1137 = .ok (.iadd, 1) by decide +kernel, rfl⟩
theorem d_Lw_1138 {nm : String} : dd (m_Lw nm) 1138 .iaload 1 1139 := ⟨show decode code 1138 = .ok (.iaload, 1) by decide +kernel, rfl⟩
theorem d_Lw_1139 {nm : String} : dd (m_Lw nm) 1139 (.invokevirtual 115) 3 1142 := ⟨show decode code 1139 = .ok (.invokevirtual 115, 3) by decide +kernel, rfl⟩
theorem d_Lw_1142 {nm : String} : db (m_Lw nm) 1142 (.if_icmp .eq) 1145 1396 := ⟨254, show decode code 1142 = .ok (.if_icmp .eq 254, 3) by decide +kernel, rfl, rfl⟩
theorem d_Lw_1145 {nm : String} : dd (m_Lw nm) 1145 (.iconst 0) 1 1146 := ⟨show decode code 1145 = .ok (.iconst 0, 1) by decide +kernel, rfl⟩
theorem d_Lw_1146 {nm : String} : decode (mbt (m_Lw nm)) 1146 = .ok (.ireturn, 1) := show decode code 1146 = .ok (.ireturn, 1) by decide +kernel
theorem d_Lw_1147 {nm : String} : dd (m_Lw nm) 1147 (.aload_n 1) 1 1148 := ⟨show decode code 1147 = .ok (.aload_n 1, 1) by decide +kernel, rfl⟩
theorem d_Lw_1148 {nm : String} : dd (m_Lw nm) 1148 (.aload_n 0) 1 1149 := ⟨show decode code 1148 = .ok (.aload_n 0, 1) by decide +kernel, rfl⟩
theorem d_Lw_1149 {nm : String} : dd (m_Lw nm) 1149 (.iload 4) 2 1151 := ⟨show decode code 1149 = .ok (.iload 4, 2) by decide +kernel, rfl⟩
theorem d_Lw_1151 {nm : String} : dd (m_Lw nm) 1151 (.iconst 1) 1 1152 := ⟨show decode code 1151 = .ok (.iconst 1, 1) by decide +kernel, rfl⟩
theorem d_Lw_1152 {nm : String} : dd (m_Lw nm) 1152 .iadd 1 1153 := ⟨show decode code 1152 = .ok (.iadd, 1) by decide +kernel, rfl⟩
theorem d_Lw_1153 {nm : String} : dd (m_Lw nm) 1153 .iaload 1 1154 := ⟨show decode code 1153 = .ok (.iaload, 1) by decide +kernel, rfl⟩
theorem d_Lw_1154 {nm : String} : dd (m_Lw nm) 1154 (.aload_n 0) 1 1155 := ⟨show decode code 1154 = .ok (.aload_n 0, 1) by decide +kernel, rfl⟩
theorem d_Lw_1155 {nm : String} : dd (m_Lw nm) 1155 (.iload 4) 2 1157 := ⟨show decode code 1155 = .ok (.iload 4, 2) by decide +kernel, rfl⟩
theorem d_Lw_1157 {nm : String} : dd (m_Lw nm) 1157 (.iconst 2) 1 1158 := ⟨show decode code 1157 = .ok (.iconst 2, 1) by decide +kernel, rfl⟩
theorem d_Lw_1158 {nm : String} : dd (m_Lw nm) 1158 .iadd 1 1159 := ⟨show decode code 1158 = .ok (.iadd, 1) by decide +kernel, rfl⟩
theorem d_Lw_1159 {nm : String} : dd (m_Lw nm) 1159 .iaload 1 1160 := ⟨show decode code 1159 = .ok (.iaload, 1) by decide +kernel, rfl⟩
theorem d_Lw_1160 {nm : String} : dd (m_Lw nm) 1160 (.invokevirtual 116) 3 1163 := ⟨show decode code 1160 = .ok (.invokevirtual 116, 3) by decide +kernel, rfl⟩
theorem d_Lw_1163 {nm : String} : dd (m_Lw nm) 1163 (.aload_n 2) 1 1164 := ⟨show decode code 1163 = .ok (.aload_n 2, 1) by decide +kernel, rfl⟩
theorem d_Lw_1164 {nm : String} : dd (m_Lw nm) 1164 (.aload_n 0) 1 1165 := ⟨show decode code 1164 = .ok (.aload_n 0, 1) by decide +kernel, rfl⟩
theorem d_Lw_1165 {nm : String} : dd (m_Lw nm) 1165 (.iload 4) 2 1167 := ⟨show decode code 1165 = .ok (.iload 4, 2) by decide +kernel, rfl⟩
theorem d_Lw_1167 {nm : String} : dd (m_Lw nm) 1167 (.iconst 1) 1 1168 := ⟨show decode code 1167 = .ok (.iconst 1, 1) by decide +kernel, rfl⟩
theorem d_Lw_1168 {nm : String} : dd (m_Lw nm) 1168 .iadd 1 1169 := ⟨show decode code 1168 = .ok (.iadd, 1) by decide +kernel, rfl⟩
theorem d_Lw_1169 {nm : String} : dd (m_Lw nm) 1169 .iaload 1 1170 := ⟨show decode code 1169 = .ok (.iaload, 1) by decide +kernel, rfl⟩
theorem d_Lw_1170 {nm : String} : dd (m_Lw nm) 1170 (.aload_n 0) 1 1171 := ⟨show decode code 1170 = .ok (.aload_n 0, 1) by decide +kernel, rfl⟩
theorem d_Lw_1171 {nm : String} : dd (m_Lw nm) 1171 (.iload 4) 2 1173 := ⟨show decode code 1171 = .ok (.iload 4, 2) by decide +kernel, rfl⟩
theorem d_Lw_1173 {nm : String} : dd (m_Lw nm) 1173 (.iconst 2) 1 1174 := ⟨show decode code 1173 = .ok (.iconst 2, 1) by decide +kernel, rfl⟩
theorem d_Lw_1174 {nm : String} : dd (m_Lw nm) 1174 .iadd 1 1175 := ⟨show decode code 1174 = .ok (.iadd, 1) by decide +kernel, rfl⟩
theorem d_Lw_1175 {nm : String} : dd (m_Lw nm) 1175 .iaload 1 1176 := ⟨show decode code 1175 = .ok (.iaload, 1) by decide +kernel, rfl⟩
theorem d_Lw_1176 {nm : String} : dd (m_Lw nm) 1176 (.invokevirtual 119) 3 1179 := ⟨show decode code 1176 = .ok (.invokevirtual 119, 3) by decide +kernel, rfl⟩
theorem d_Lw_1179 {nm : String} : db (m_Lw nm) 1179 (.if_icmp .eq) 1182 1396 := ⟨217, show decode code 1179 = .ok (.if_icmp .eq 217, 3) by decide +kernel, rfl, rfl⟩
theorem d_Lw_1182 {nm : String} : dd (m_Lw nm) 1182 (.iconst 0) 1 1183 := ⟨show decode code 1182 = .ok (.iconst 0, 1) by decide +kernel, rfl⟩
theorem d_Lw_1183 {nm : String} : decode (mbt (m_Lw nm)) 1183 = .ok (.ireturn, 1) := show decode code 1183 = .ok (.ireturn, 1) by decide +kernel
theorem d_Lw_1184 {nm : String} : dd (m_Lw nm) 1184 (.aload_n 1) 1 1185 := ⟨show decode code 1184 = .ok (.aload_n 1, 1) by decide +kernel, rfl⟩
theorem d_Lw_1185 {nm : String} : dd (m_Lw nm) 1185 (.aload_n 0) 1 1186 := ⟨show decode code 1185 = .ok (.aload_n 0, 1) by decide +kernel, rfl⟩
theorem d_Lw_1186 {nm : String} : dd (m_Lw nm) 1186 (.iload 4) 2 1188 := ⟨show decode code 1186 = .ok (.iload 4, 2) by decide +kernel, rfl⟩
theorem d_Lw_1188 {nm : String} : dd (m_Lw nm) 1188 (.iconst 1) 1 1189 := ⟨show decode code 1188 = .ok (.iconst 1, 1) by decide +kernel, rfl⟩
theorem d_Lw_1189 {nm : String} : dd (m_Lw nm) 1189 .iadd 1 1190 := ⟨show decode code 1189 = .ok (.iadd, 1) by decide +kernel, rfl⟩
theorem d_Lw_1190 {nm : String} : dd (m_Lw nm) 1190 .iaload 1 1191 := ⟨show decode code 1190 = .ok (.iaload, 1) by decide +kernel, rfl⟩
theorem d_Lw_1191 {nm : String} : dd (m_Lw nm) 1191 (.aload_n 0) 1 1192 := ⟨show decode code 1191 = .ok (.aload_n 0, 1) by decide +kernel, rfl⟩
theorem d_Lw_1192 {nm : String} : dd (m_Lw nm) 1192 (.iload 4) 2 1194 := ⟨show decode code 1192 = .ok (.iload 4, 2) by decide +kernel, rfl⟩
theorem d_Lw_1194 {nm : String} : dd (m_Lw nm) 1194 (.iconst 2) 1 1195 := ⟨show decode code 1194 = .ok (.iconst 2, 1) by decide +kernel, rfl⟩
theorem d_Lw_1195 {nm : String} : dd (m_Lw nm) 1195 .iadd 1 1196 := ⟨show decode code 1195 = .ok (.iadd, 1) by decide +kernel, rfl⟩
theorem d_Lw_1196 {nm : String} : dd (m_Lw nm) 1196 .iaload 1 1197 := ⟨show decode code 1196 = .ok (.iaload, 1) by decide +kernel, rfl⟩
theorem d_Lw_1197 {nm : String} : dd (m_Lw nm) 1197 (.aload_n 0) 1 1198 := ⟨show decode code 1197 = .ok (.aload_n 0, 1) by decide +kernel, rfl⟩
theorem d_Lw_1198 {nm : String} : dd (m_Lw nm) 1198 (.iload 4) 2 1200 := ⟨show decode code 1198 = .ok (.iload 4, 2) by decide +kernel, rfl⟩
theorem d_Lw_1200 {nm : String} : dd (m_Lw nm) 1200 (.iconst 3) 1 1201 := ⟨show decode code 1200 = .ok (.iconst 3, 1) by decide +kernel, rfl⟩
theorem d_Lw_1201 {nm : String} : dd (m_Lw nm) 1201 .iadd 1 1202 := ⟨show decode code 1201 = .ok (.iadd, 1) by decide +kernel, rfl⟩
theorem d_Lw_1202 {nm : String} : dd (m_Lw nm) 1202 .iaload 1 1203 := ⟨show decode code 1202 = .ok (.iaload, 1) by decide +kernel, rfl⟩
theorem d_Lw_1203 {nm : String} : dd (m_Lw nm) 1203 (.invokevirtual 120) 3 1206 := ⟨show decode code 1203 = .ok (.invokevirtual 120, 3) by decide +kernel, rfl⟩
theorem d_Lw_1206 {nm : String} : dd (m_Lw nm) 1206 (.aload_n 2) 1 1207 := ⟨show decode code 1206 = .ok (.aload_n 2, 1) by decide +kernel, rfl⟩
theorem d_Lw_1207 {nm : String} : dd (m_Lw nm) 1207 (.aload_n 0) 1 1208 := ⟨show decode code 1207 = .ok (.aload_n 0, 1) by decide +kernel, rfl⟩
theorem d_Lw_1208 {nm : String} : dd (m_Lw nm) 1208 (.iload 4) 2 1210 := ⟨show decode code 1208 = .ok (.iload 4, 2) by decide +kernel, rfl⟩
theorem d_Lw_1210 {nm : String} : dd (m_Lw nm) 1210 (.iconst 1) 1 1211 := ⟨show decode code 1210 = .ok (.iconst 1, 1) by decide +kernel, rfl⟩
theorem d_Lw_1211 {nm : String} : dd (m_Lw nm) 1211 .iadd 1 1212 := ⟨show decode code 1211 = .ok (.iadd, 1) by decide +kernel, rfl⟩
theorem d_Lw_1212 {nm : String} : dd (m_Lw nm) 1212 .iaload 1 1213 := ⟨show decode code 1212 = .ok (.iaload, 1) by decide +kernel, rfl⟩
theorem d_Lw_1213 {nm : String} : dd (m_Lw nm) 1213 (.aload_n 0) 1 1214 := ⟨show decode code 1213 = .ok (.aload_n 0, 1) by decide +kernel, rfl⟩
theorem d_Lw_1214 {nm : String} : dd (m_Lw nm) 1214 (.iload 4) 2 1216 := ⟨show decode code 1214 = .ok (.iload 4, 2) by decide +kernel, rfl⟩
theorem d_Lw_1216 {nm : String} : dd (m_Lw nm) 1216 (.iconst 2) 1 1217 := ⟨show decode code 1216 = .ok (.iconst 2, 1) by decide +kernel, rfl⟩
theorem d_Lw_1217 {nm : String} : dd (m_Lw nm) 1217 .iadd 1 1218 := ⟨show decode code 1217 = .ok (.iadd, 1) by decide +kernel, rfl⟩
theorem d_Lw_1218 {nm : String} : dd (m_Lw nm) 1218 .iaload 1 1219 := ⟨show decode code 1218 = .ok (.iaload, 1) by decide +kernel, rfl⟩
theorem d_Lw_1219 {nm : String} : dd (m_Lw nm) 1219 (.aload_n 0) 1 1220 := ⟨show decode code 1219 = .ok (.aload_n 0, 1) by decide +kernel, rfl⟩
theorem d_Lw_1220 {nm : String} : dd (m_Lw nm) 1220 (.iload 4) 2 1222 := ⟨show decode code 1220 = .ok (.iload 4, 2) by decide +kernel, rfl⟩
theorem d_Lw_1222 {nm : String} : dd (m_Lw nm) 1222 (.iconst 3) 1 1223 := ⟨show decode code 1222 = .ok (.iconst 3, 1) by decide +kernel, rfl⟩
theorem d_Lw_1223 {nm : String} : dd (m_Lw nm) 1223 .iadd 1 1224 := ⟨show decode code 1223 = .ok (.iadd, 1) by decide +kernel, rfl⟩
theorem d_Lw_1224 {nm : String} : dd (m_Lw nm) 1224 .iaload 1 1225 := ⟨show decode code 1224 = .ok (.iaload, 1) by decide +kernel, rfl⟩
theorem d_Lw_1225 {nm : String} : dd (m_Lw nm) 1225 (.invokevirtual 123) 3 1228 := ⟨show decode code 1225 = .ok (.invokevirtual 123, 3) by decide +kernel, rfl⟩
theorem d_Lw_1228 {nm : String} : db (m_Lw nm) 1228 (.if_icmp .eq) 1231 1396 := ⟨168, show decode code 1228 = .ok (.if_icmp .eq 168, 3) by decide +kernel, rfl, rfl⟩
theorem d_Lw_1231 {nm : String} : dd (m_Lw nm) 1231 (.iconst 0) 1 1232 := ⟨show decode code 1231 = .ok (.iconst 0, 1) by decide +kernel, rfl⟩
theorem d_Lw_1232 {nm : String} : decode (mbt (m_Lw nm)) 1232 = .ok (.ireturn, 1) := show decode code 1232 = .ok (.ireturn, 1) by decide +kernel
theorem d_Lw_1233 {nm : String} : dd (m_Lw nm) 1233 (.aload_n 1) 1 1234 := ⟨show decode code 1233 = .ok (.aload_n 1, 1) by decide +kernel, rfl⟩
theorem d_Lw_1234 {nm : String} : dd (m_Lw nm) 1234 (.aload_n 0) 1 1235 := ⟨show decode code 1234 = .ok (.aload_n 0, 1) by decide +kernel, rfl⟩
theorem d_Lw_1235 {nm : String} : dd (m_Lw nm) 1235 (.iload 4) 2 1237 := ⟨show decode code 1235 = .ok (.iload 4, 2) by decide +kernel, rfl⟩
theorem d_Lw_1237 {nm : String} : dd (m_Lw nm) 1237 (.iconst 1) 1 1238 := ⟨show decode code 1237 = .ok (.iconst 1, 1) by decide +kernel, rfl⟩
theorem d_Lw_1238 {nm : String} : dd (m_Lw nm) 1238 .iadd 1 1239 := ⟨show decode code 1238 = .ok (.iadd, 1) by decide +kernel, rfl⟩
theorem d_Lw_1239 {nm : String} : dd (m_Lw nm) 1239 .iaload 1 1240 := ⟨show decode code 1239 = .ok (.iaload, 1) by decide +kernel, rfl⟩
theorem d_Lw_1240 {nm : String} : dd (m_Lw nm) 1240 (.invokevirtual 124) 3 1243 := ⟨show decode code 1240 = .ok (.invokevirtual 124, 3) by decide +kernel, rfl⟩
theorem d_Lw_1243 {nm : String} : dd (m_Lw nm) 1243 (.aload_n 2) 1 1244 := ⟨show decode code 1243 = .ok (.aload_n 2, 1) by decide +kernel, rfl⟩
theorem d_Lw_1244 {nm : String} : dd (m_Lw nm) 1244 (.aload_n 0) 1 1245 := ⟨show decode code 1244 = .ok (.aload_n 0, 1) by decide +kernel, rfl⟩
theorem d_Lw_1245 {nm : String} : dd (m_Lw nm) 1245 (.iload 4) 2 1247 := ⟨show decode code 1245 = .ok (.iload 4, 2) by decide +kernel, rfl⟩
theorem d_Lw_1247 {nm : String} : dd (m_Lw nm) 1247 (.iconst 1) 1 1248 := ⟨show decode code 1247 = .ok (.iconst 1, 1) by decide +kernel, rfl⟩
theorem d_Lw_1248 {nm : String} : dd (m_Lw nm) 1248 .iadd 1 1249 := ⟨show decode code 1248 = .ok (.iadd, 1) by decide +kernel, rfl⟩
theorem d_Lw_1249 {nm : String} : dd (m_Lw nm) 1249 .iaload 1 1250 := ⟨show decode code 1249 = .ok (.iaload, 1) by decide +kernel, rfl⟩
theorem d_Lw_1250 {nm : String} : dd (m_Lw nm) 1250 (.invokevirtual 127) 3 1253 := ⟨show decode code 1250 = .ok (.invokevirtual 127, 3) by decide +kernel, rfl⟩
theorem d_Lw_1253 {nm : String} : db (m_Lw nm) 1253 (.if_icmp .eq) 1256 1396 := ⟨143, show decode code 1253 = .ok (.if_icmp .eq 143, 3) by decide +kernel, rfl, rfl⟩
theorem d_Lw_1256 {nm : String} : dd (m_Lw nm) 1256 (.iconst 0) 1 1257 := ⟨show decode code 1256 = .ok (.iconst 0, 1) by decide +kernel, rfl⟩
theorem d_Lw_1257 {nm : String} : decode (mbt (m_Lw nm)) 1257 = .ok (.ireturn, 1) := show decode code 1257 = .ok (.ireturn, 1) by decide +kernel
theorem d_Lw_1258 {nm : String} : dd (m_Lw nm) 1258 (.aload_n 1) 1 1259 := ⟨show decode code 1258 = .ok (.aload_n 1, 1) by decide +kernel, rfl⟩
theorem d_Lw_1259 {nm : String} : dd (m_Lw nm) 1259 (.invokevirtual 128) 3 1262 := ⟨show decode code 1259 = .ok (.invokevirtual 128, 3) by decide +kernel, rfl⟩
theorem d_Lw_1262 {nm : String} : dd (m_Lw nm) 1262 (.aload_n 2) 1 1263 := ⟨show decode code 1262 = .ok (.aload_n 2, 1) by decide +kernel, rfl⟩
theorem d_Lw_1263 {nm : String} : dd (m_Lw nm) 1263 (.invokevirtual 131) 3 1266 := ⟨show decode code 1263 = .ok (.invokevirtual 131, 3) by decide +kernel, rfl⟩
theorem d_Lw_1266 {nm : String} : db (m_Lw nm) 1266 (.if_icmp .eq) 1269 1396 := ⟨130, show decode code 1266 = .ok (.if_icmp .eq 130, 3) by decide +kernel, rfl, rfl⟩
theorem d_Lw_1269 {nm : String} : dd (m_Lw nm) 1269 (.iconst 0) 1 1270 := ⟨show decode code 1269 = .ok (.iconst 0, 1) by decide +kernel, rfl⟩
theorem d_Lw_1270 {nm : String} : decode (mbt (m_Lw nm)) 1270 = .ok (.ireturn, 1) := show decode code 1270 = .ok (.ireturn, 1) by decide +kernel
theorem d_Lw_1271 {nm : String} : dd (m_Lw nm) 1271 (.aload_n 1) 1 1272 := ⟨show decode code 1271 = .ok (.aload_n 1, 1) by decide +kernel, rfl⟩
theorem d_Lw_1272 {nm : String} : dd (m_Lw nm) 1272 (.aload_n 0) 1 1273 := ⟨show decode code 1272 = .ok (.aload_n 0, 1) by decide +kernel, rfl⟩
theorem d_Lw_1273 {nm : String} : dd (m_Lw nm) 1273 (.iload 4) 2 1275 := ⟨show decode code 1273 = .ok (.iload 4, 2) by decide +kernel, rfl⟩
theorem d_Lw_1275 {nm : String} : dd (m_Lw nm) 1275 (.iconst 1) 1 1276 := ⟨show decode code 1275 = .ok (.iconst 1, 1) by decide +kernel, rfl⟩
theorem d_Lw_1276 {nm : String} : dd (m_Lw nm) 1276 .iadd 1 1277 := ⟨show decode code 1276 = .ok (.iadd, 1) by decide +kernel, rfl⟩
theorem d_Lw_1277 {nm : String} : dd (m_Lw nm) 1277 .iaload 1 1278 := ⟨show decode code 1277 = .ok (.iaload, 1) by decide +kernel, rfl⟩
theorem d_Lw_1278 {nm : String} : dd (m_Lw nm) 1278 (.invokevirtual 132) 3 1281 := ⟨show decode code 1278 = .ok (.invokevirtual 132, 3) by decide +kernel, rfl⟩
theorem d_Lw_1281 {nm : String} : dd (m_Lw nm) 1281 (.aload_n 2) 1 1282 := ⟨show decode code 1281 = .ok (.aload_n 2, 1) by decide +kernel, rfl⟩
theorem d_Lw_1282 {nm : String} : dd (m_Lw nm) 1282 (.aload_n 0) 1 1283 := ⟨show decode code 1282 = .ok (.aload_n 0, 1) by decide +kernel, rfl⟩
theorem d_Lw_1283 {nm : String} : dd (m_Lw nm) 1283 (.iload 4) 2 1285 := ⟨show decode code 1283 = .ok (.iload 4, 2) by decide +kernel, rfl⟩
theorem d_Lw_1285 {nm : String} : dd (m_Lw nm) 1285 (.iconst 1) 1 1286 := ⟨show decode code 1285 = .ok (.iconst 1, 1) by decide +kernel, rfl⟩
theorem d_Lw_1286 {nm : String} : dd (m_Lw nm) 1286 .iadd 1 1287 := ⟨show decode code 1286 = .ok (.iadd, 1) by decide +kernel, rfl⟩
theorem d_Lw_1287 {nm : String} : dd (m_Lw nm) 1287 .iaload 1 1288 := ⟨show decode code 1287 = .ok (.iaload, 1) by decide +kernel, rfl⟩
theorem d_Lw_1288 {nm : String} : dd (m_Lw nm) 1288 (.invokevirtual 135) 3 1291 := ⟨show decode code 1288 = .ok (.invokevirtual 135, 3) by decide +kernel, rfl⟩
theorem d_Lw_1291 {nm : String} : db (m_Lw nm) 1291 (.if_icmp .eq) 1294 1396 := ⟨105, show decode code 1291 = .ok (.if_icmp .eq 105, 3) by decide +kernel, rfl, rfl⟩
theorem d_Lw_1294 {nm : String} : dd (m_Lw nm) 1294 (.iconst 0) 1 1295 := ⟨show decode code 1294 = .ok (.iconst 0, 1) by decide +kernel, rfl⟩
theorem d_Lw_1295 {nm : String} : decode (mbt (m_Lw nm)) 1295 = .ok (.ireturn, 1) := show decode code 1295 = .ok (.ireturn, 1) by decide +kernel
theorem d_Lw_1296 {nm : String} : dd (m_Lw nm) 1296 (.aload_n 1) 1 1297 := ⟨show decode code 1296 = .ok (.aload_n 1, 1) by decide +kernel, rfl⟩
theorem d_Lw_1297 {nm : String} : dd (m_Lw nm) 1297 (.aload_n 0) 1 1298 := ⟨show decode code 1297 = .ok (.aload_n 0, 1) by decide +kernel, rfl⟩
theorem d_Lw_1298 {nm : String} : dd (m_Lw nm) 1298 (.iload 4) 2 1300 := ⟨show decode code 1298 = .ok (.iload 4, 2) by decide +kernel, rfl⟩
theorem d_Lw_1300 {nm : String} : dd (m_Lw nm) 1300 (.iconst 1) 1 1301 := ⟨show decode code 1300 = .ok (.iconst 1, 1) by decide +kernel, rfl⟩
theorem d_Lw_1301 {nm : String} : dd (m_Lw nm) 1301 .iadd 1 1302 := ⟨show decode code 1301 = .ok (.iadd, 1) by decide +kernel, rfl⟩
theorem d_Lw_1302 {nm : String} : dd (m_Lw nm) 1302 .iaload 1 1303 := ⟨show decode code 1302 = .ok (.iaload, 1) by decide +kernel, rfl⟩
theorem d_Lw_1303 {nm : String} : dd (m_Lw nm) 1303 (.aload_n 0) 1 1304 := ⟨show decode code 1303 = .ok (.aload_n 0, 1) by decide +kernel, rfl⟩
theorem d_Lw_1304 {nm : String} : dd (m_Lw nm) 1304 (.iload 4) 2 1306 := ⟨show decode code 1304 = .ok (.iload 4, 2) by decide +kernel, rfl⟩
theorem d_Lw_1306 {nm : String} : dd (m_Lw nm) 1306 (.iconst 2) 1 1307 := ⟨show decode code 1306 = .ok (.iconst 2, 1) by decide +kernel, rfl⟩
theorem d_Lw_1307 {nm : String} : dd (m_Lw nm) 1307 .iadd 1 1308 := ⟨show decode code 1307 = .ok (.iadd, 1) by decide +kernel, rfl⟩
theorem d_Lw_1308 {nm : String} : dd (m_Lw nm) 1308 .iaload 1 1309 := ⟨show decode code 1308 = .ok (.iaload, 1) by decide +kernel, rfl⟩
theorem d_Lw_1309 {nm : String} : dd (m_Lw nm) 1309 (.invokevirtual 136) 3 1312 := ⟨show decode code 1309 = .ok (.invokevirtual 136, 3) by decide +kernel, rfl⟩
theorem d_Lw_1312 {nm : String} : dd (m_Lw nm) 1312 (.aload_n 2) 1 1313 := ⟨show decode code 1312 = .ok (.aload_n 2, 1) by decide +kernel, rfl⟩
theorem d_Lw_1313 {nm : String} : dd (m_Lw nm) 1313 (.aload_n 0) 1 1314 := ⟨show decode code 1313 = .ok (.aload_n 0, 1) by decide +kernel, rfl⟩
theorem d_Lw_1314 {nm : String} : dd (m_Lw nm) 1314 (.iload 4) 2 1316 := ⟨show decode code 1314 = .ok (.iload 4, 2) by decide +kernel, rfl⟩
theorem d_Lw_1316 {nm : String} : dd (m_Lw nm) 1316 (.iconst 1) 1 1317 := ⟨show decode code 1316 = .ok (.iconst 1, 1) by decide +kernel, rfl⟩
theorem d_Lw_1317 {nm : String} : dd (m_Lw nm) 1317 .iadd 1 1318 := ⟨show decode code 1317 = .ok (.iadd, 1) by decide +kernel, rfl⟩
theorem d_Lw_1318 {nm : String} : dd (m_Lw nm) 1318 .iaload 1 1319 := ⟨show decode code 1318 = .ok (.iaload, 1) by decide +kernel, rfl⟩
theorem d_Lw_1319 {nm : String} : dd (m_Lw nm) 1319 (.aload_n 0) 1 1320 := ⟨show decode code 1319 = .ok (.aload_n 0, 1) by decide +kernel, rfl⟩
theorem d_Lw_1320 {nm : String} : dd (m_Lw nm) 1320 (.iload 4) 2 1322 := ⟨show decode code 1320 = .ok (.iload 4, 2) by decide +kernel, rfl⟩
theorem d_Lw_1322 {nm : String} : dd (m_Lw nm) 1322 (.iconst 2) 1 1323 := ⟨show decode code 1322 = .ok (.iconst 2, 1) by decide +kernel, rfl⟩
theorem d_Lw_1323 {nm : String} : dd (m_Lw nm) 1323 .iadd 1 1324 := ⟨show decode code 1323 = .ok (.iadd, 1) by decide +kernel, rfl⟩
theorem d_Lw_1324 {nm : String} : dd (m_Lw nm) 1324 .iaload 1 1325 := ⟨show decode code 1324 = .ok (.iaload, 1) by decide +kernel, rfl⟩
theorem d_Lw_1325 {nm : String} : dd (m_Lw nm) 1325 (.invokevirtual 139) 3 1328 := ⟨show decode code 1325 = .ok (.invokevirtual 139, 3) by decide +kernel, rfl⟩
theorem d_Lw_1328 {nm : String} : db (m_Lw nm) 1328 (.if_icmp .eq) 1331 1396 := ⟨68, show decode code 1328 = .ok (.if_icmp .eq 68, 3) by decide +kernel, rfl, rfl⟩
theorem d_Lw_1331 {nm : String} : dd (m_Lw nm) 1331 (.iconst 0) 1 1332 := ⟨show decode code 1331 = .ok (.iconst 0, 1) by decide +kernel, rfl⟩
theorem d_Lw_1332 {nm : String} : decode (mbt (m_Lw nm)) 1332 = .ok (.ireturn, 1) := show decode code 1332 = .ok (.ireturn, 1) by decide +kernel
theorem d_Lw_1333 {nm : String} : dd (m_Lw nm) 1333 (.aload_n 1) 1 1334 := ⟨show decode code 1333 = .ok (.aload_n 1, 1) by decide +kernel, rfl⟩
theorem d_Lw_1334 {nm : String} : dd (m_Lw nm) 1334 (.invokevirtual 140) 3 1337 := ⟨show decode code 1334 = .ok (.invokevirtual 140, 3) by decide +kernel, rfl⟩
theorem d_Lw_1337 {nm : String} : dd (m_Lw nm) 1337 (.aload_n 2) 1 1338 := ⟨show decode code 1337 = .ok (.aload_n 2, 1) by decide +kernel, rfl⟩
theorem d_Lw_1338 {nm : String} : dd (m_Lw nm) 1338 (.invokevirtual 143) 3 1341 := ⟨show decode code 1338 = .ok (.invokevirtual 143, 3) by decide +kernel, rfl⟩
theorem d_Lw_1341 {nm : String} : db (m_Lw nm) 1341 (.if_icmp .eq) 1344 1396 := ⟨55, show decode code 1341 = .ok (.if_icmp .eq 55, 3) by decide +kernel, rfl, rfl⟩
theorem d_Lw_1344 {nm : String} : dd (m_Lw nm) 1344 (.iconst 0) 1 1345 := ⟨show decode code 1344 = .ok (.iconst 0, 1) by decide +kernel, rfl⟩
theorem d_Lw_1345 {nm : String} : decode (mbt (m_Lw nm)) 1345 = .ok (.ireturn, 1) := show decode code 1345 = .ok (.ireturn, 1) by decide +kernel
theorem d_Lw_1346 {nm : String} : dd (m_Lw nm) 1346 (.aload_n 1) 1 1347 := ⟨show decode code 1346 = .ok (.aload_n 1, 1) by decide +kernel, rfl⟩
theorem d_Lw_1347 {nm : String} : dd (m_Lw nm) 1347 (.aload_n 0) 1 1348 := ⟨show decode code 1347 = .ok (.aload_n 0, 1) by decide +kernel, rfl⟩
theorem d_Lw_1348 {nm : String} : dd (m_Lw nm) 1348 (.iload 4) 2 1350 := ⟨show decode code 1348 = .ok (.iload 4, 2) by decide +kernel, rfl⟩
theorem d_Lw_1350 {nm : String} : dd (m_Lw nm) 1350 (.iconst 1) 1 1351 := ⟨show decode code 1350 = .ok (.iconst 1, 1) by decide +kernel, rfl⟩
theorem d_Lw_1351 {nm : String} : dd (m_Lw nm) 1351 .iadd 1 1352 := ⟨show decode code 1351 = .ok (.iadd, 1) by decide +kernel, rfl⟩
theorem d_Lw_1352 {nm : String} : dd (m_Lw nm) 1352 .iaload 1 1353 := ⟨show decode code 1352 = .ok (.iaload, 1) by decide +kernel, rfl⟩
theorem d_Lw_1353 {nm : String} : dd (m_Lw nm) 1353 (.invokevirtual 144) 3 1356 := ⟨show decode code 1353 = .ok (.invokevirtual 144, 3) by decide +kernel, rfl⟩
theorem d_Lw_1356 {nm : String} : dd (m_Lw nm) 1356 (.aload_n 2) 1 1357 := ⟨show decode code 1356 = .ok (.aload_n 2, 1) by decide +kernel, rfl⟩
theorem d_Lw_1357 {nm : String} : dd (m_Lw nm) 1357 (.aload_n 0) 1 1358 := ⟨show decode code 1357 = .ok (.aload_n 0, 1) by decide +kernel, rfl⟩
theorem d_Lw_1358 {nm : String} : dd (m_Lw nm) 1358 (.iload 4) 2 1360 := ⟨show decode code 1358 = .ok (.iload 4, 2) by decide +kernel, rfl⟩
theorem d_Lw_1360 {nm : String} : dd (m_Lw nm) 1360 (.iconst 1) 1 1361 := ⟨show decode code 1360 = .ok (.iconst 1, 1) by decide +kernel, rfl⟩
theorem d_Lw_1361 {nm : String} : dd (m_Lw nm) 1361 .iadd 1 1362 := ⟨show decode code 1361 = .ok (.iadd, 1) by decide +kernel, rfl⟩
theorem d_Lw_1362 {nm : String} : dd (m_Lw nm) 1362 .iaload 1 1363 := ⟨show decode code 1362 = .ok (.iaload, 1) by decide +kernel, rfl⟩
theorem d_Lw_1363 {nm : String} : dd (m_Lw nm) 1363 (.invokevirtual 147) 3 1366 := ⟨show decode code 1363 = .ok (.invokevirtual 147, 3) by decide +kernel, rfl⟩
theorem d_Lw_1366 {nm : String} : db (m_Lw nm) 1366 (.if_icmp .eq) 1369 1396 := ⟨30, show decode code 1366 = .ok (.if_icmp .eq 30, 3) by decide +kernel, rfl, rfl⟩
theorem d_Lw_1369 {nm : String} : dd (m_Lw nm) 1369 (.iconst 0) 1 1370 := ⟨show decode code 1369 = .ok (.iconst 0, 1) by decide +kernel, rfl⟩
theorem d_Lw_1370 {nm : String} : decode (mbt (m_Lw nm)) 1370 = .ok (.ireturn, 1) := show decode code 1370 = .ok (.ireturn, 1) by decide +kernel
theorem d_Lw_1371 {nm : String} : dd (m_Lw nm) 1371 (.aload_n 1) 1 1372 := ⟨show decode code 1371 = .ok (.aload_n 1, 1) by decide +kernel, rfl⟩
theorem d_Lw_1372 {nm : String} : dd (m_Lw nm) 1372 (.aload_n 0) 1 1373 := ⟨show decode code 1372 = .ok (.aload_n 0, 1) by decide +kernel, rfl⟩
theorem d_Lw_1373 {nm : String} : dd (m_Lw nm) 1373 (.iload 4) 2 1375 := ⟨show decode code 1373 = .ok (.iload 4, 2) by decide +kernel, rfl⟩
theorem d_Lw_1375 {nm : String} : dd (m_Lw nm) 1375 (.iconst 1) 1 1376 := ⟨show decode code 1375 = .ok (.iconst 1, 1) by decide +kernel, rfl⟩
theorem d_Lw_1376 {nm : String} : dd (m_Lw nm) 1376 .iadd 1 1377 := ⟨show decode code 1376 = .ok (.iadd, 1) by decide +kernel, rfl⟩
theorem d_Lw_1377 {nm : String} : dd (m_Lw nm) 1377 .iaload 1 1378 := ⟨show decode code 1377 = .ok (.iaload, 1) by decide +kernel, rfl⟩
theorem d_Lw_1378 {nm : String} : dd (m_Lw nm) 1378 (.invokevirtual 148) 3 1381 := ⟨show decode code 1378 = .ok (.invokevirtual 148, 3) by decide +kernel, rfl⟩
theorem d_Lw_1381 {nm : String} : dd (m_Lw nm) 1381 (.aload_n 2) 1 1382 := ⟨show decode code 1381 = .ok (.aload_n 2, 1) by decide +kernel, rfl⟩
theorem d_Lw_1382 {nm : String} : dd (m_Lw nm) 1382 (.aload_n 0) 1 1383 := ⟨show decode code 1382 = .ok (.aload_n 0, 1) by decide +kernel, rfl⟩
theorem d_Lw_1383 {nm : String} : dd (m_Lw nm) 1383 (.iload 4) 2 1385 := ⟨show decode code 1383 = .ok (.iload 4, 2) by decide +kernel, rfl⟩
theorem d_Lw_1385 {nm : String} : dd (m_Lw nm) 1385 (.iconst 1) 1 1386 := ⟨show decode code 1385 = .ok (.iconst 1, 1) by decide +kernel, rfl⟩
theorem d_Lw_1386 {nm : String} : dd (m_Lw nm) 1386 .iadd 1 1387 := ⟨show decode code 1386 = .ok (.iadd, 1) by decide +kernel, rfl⟩
theorem d_Lw_1387 {nm : String} : dd (m_Lw nm) 1387 .iaload 1 1388 := ⟨show decode code 1387 = .ok (.iaload, 1) by decide +kernel, rfl⟩
theorem d_Lw_1388 {nm : String} : dd (m_Lw nm) 1388 (.invokevirtual 151) 3 1391 := ⟨show decode code 1388 = .ok (.invokevirtual 151, 3) by decide +kernel, rfl⟩
theorem d_Lw_1391 {nm : String} : db (m_Lw nm) 1391 (.if_icmp .eq) 1394 1396 := ⟨5, show decode code 1391 = .ok (.if_icmp .eq 5, 3) by decide +kernel, rfl, rfl⟩
theorem d_Lw_1394 {nm : String} : dd (m_Lw nm) 1394 (.iconst 0) 1 1395 := ⟨show decode code 1394 = .ok (.iconst 0, 1) by decide +kernel, rfl⟩
theorem d_Lw_1395 {nm : String} : decode (mbt (m_Lw nm)) 1395 = .ok (.ireturn, 1) := show decode code 1395 = .ok (.ireturn, 1) by decide +kernel
theorem d_Lw_1396 {nm : String} : dd (m_Lw nm) 1396 (.iinc 4 6) 3 1399 := ⟨show decode code 1396 = .ok (.iinc 4 6, 3) by decide +kernel, rfl⟩
theorem d_Lw_1399 {nm : String} : db (m_Lw nm) 1399 .goto 1402 23 := ⟨-1376, show decode code 1399 = .ok (.goto (-1376), 3) by decide +kernel, rfl, rfl⟩
theorem d_Lw_1402 {nm : String} : dd (m_Lw nm) 1402 (.iconst 1) 1 1403 := ⟨show decode code 1402 = .ok (.iconst 1, 1) by decide +kernel, rfl⟩
theorem d_Lw_1403 {nm : String} : decode (mbt (m_Lw nm)) 1403 = .ok (.ireturn, 1) := show decode code 1403 = .ok (.ireturn, 1) by decide +kernel
