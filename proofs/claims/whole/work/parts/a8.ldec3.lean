/-! ===== the law: what its bytes say, 3 ===== -/
theorem dL_924 : decode code 924 = .ok (.invokevirtual 99, 3) := by decide +kernel
theorem dL_927 : decode code 927 = .ok (.if_icmp .eq 648, 3) := by decide +kernel
theorem dL_932 : decode code 932 = .ok (.aload_n 1, 1) := by decide +kernel
theorem dA_933 : AD 933 1 := by unfold AD; decide +kernel
theorem dL_938 : decode code 938 = .ok (.invokevirtual 100, 3) := by decide +kernel
theorem dL_941 : decode code 941 = .ok (.aload_n 2, 1) := by decide +kernel
theorem dA_942 : AD 942 1 := by unfold AD; decide +kernel
theorem dL_947 : decode code 947 = .ok (.invokevirtual 103, 3) := by decide +kernel
theorem dL_950 : decode code 950 = .ok (.if_icmp .eq 625, 3) := by decide +kernel
theorem dL_955 : decode code 955 = .ok (.aload_n 1, 1) := by decide +kernel
theorem dA_956 : AD 956 1 := by unfold AD; decide +kernel
theorem dA_961 : AD 961 2 := by unfold AD; decide +kernel
theorem dL_966 : decode code 966 = .ok (.invokevirtual 104, 3) := by decide +kernel
theorem dL_969 : decode code 969 = .ok (.aload_n 2, 1) := by decide +kernel
theorem dA_970 : AD 970 1 := by unfold AD; decide +kernel
theorem dA_975 : AD 975 2 := by unfold AD; decide +kernel
theorem dL_980 : decode code 980 = .ok (.invokevirtual 107, 3) := by decide +kernel
theorem dL_983 : decode code 983 = .ok (.if_icmp .eq 592, 3) := by decide +kernel
theorem dL_988 : decode code 988 = .ok (.aload_n 1, 1) := by decide +kernel
theorem dA_989 : AD 989 1 := by unfold AD; decide +kernel
theorem dL_994 : decode code 994 = .ok (.invokevirtual 108, 3) := by decide +kernel
theorem dL_997 : decode code 997 = .ok (.aload_n 2, 1) := by decide +kernel
theorem dA_998 : AD 998 1 := by unfold AD; decide +kernel
theorem dL_1003 : decode code 1003 = .ok (.invokevirtual 111, 3) := by decide +kernel
theorem dL_1006 : decode code 1006 = .ok (.if_icmp .eq 569, 3) := by decide +kernel
theorem dL_1011 : decode code 1011 = .ok (.aload_n 1, 1) := by decide +kernel
theorem dA_1012 : AD 1012 1 := by unfold AD; decide +kernel
theorem dA_1017 : AD 1017 2 := by unfold AD; decide +kernel
theorem dA_1022 : AD 1022 3 := by unfold AD; decide +kernel
theorem dL_1027 : decode code 1027 = .ok (.invokevirtual 112, 3) := by decide +kernel
theorem dL_1030 : decode code 1030 = .ok (.aload_n 2, 1) := by decide +kernel
theorem dA_1031 : AD 1031 1 := by unfold AD; decide +kernel
theorem dA_1036 : AD 1036 2 := by unfold AD; decide +kernel
theorem dA_1041 : AD 1041 3 := by unfold AD; decide +kernel
theorem dL_1046 : decode code 1046 = .ok (.invokevirtual 115, 3) := by decide +kernel
theorem dL_1049 : decode code 1049 = .ok (.if_icmp .eq 526, 3) := by decide +kernel
theorem dL_1054 : decode code 1054 = .ok (.aload_n 1, 1) := by decide +kernel
theorem dA_1055 : AD 1055 1 := by unfold AD; decide +kernel
theorem dA_1060 : AD 1060 2 := by unfold AD; decide +kernel
theorem dA_1065 : AD 1065 3 := by unfold AD; decide +kernel
theorem dL_1070 : decode code 1070 = .ok (.invokevirtual 116, 3) := by decide +kernel
theorem dL_1073 : decode code 1073 = .ok (.aload_n 2, 1) := by decide +kernel
theorem dA_1074 : AD 1074 1 := by unfold AD; decide +kernel
theorem dA_1079 : AD 1079 2 := by unfold AD; decide +kernel
theorem dA_1084 : AD 1084 3 := by unfold AD; decide +kernel
theorem dL_1089 : decode code 1089 = .ok (.invokevirtual 119, 3) := by decide +kernel
theorem dL_1092 : decode code 1092 = .ok (.if_icmp .eq 483, 3) := by decide +kernel
theorem dL_1097 : decode code 1097 = .ok (.aload_n 1, 1) := by decide +kernel
theorem dA_1098 : AD 1098 1 := by unfold AD; decide +kernel
theorem dA_1103 : AD 1103 2 := by unfold AD; decide +kernel
theorem dL_1108 : decode code 1108 = .ok (.invokevirtual 120, 3) := by decide +kernel
theorem dL_1111 : decode code 1111 = .ok (.aload_n 2, 1) := by decide +kernel
theorem dA_1112 : AD 1112 1 := by unfold AD; decide +kernel
theorem dA_1117 : AD 1117 2 := by unfold AD; decide +kernel
theorem dL_1122 : decode code 1122 = .ok (.invokevirtual 123, 3) := by decide +kernel
theorem dL_1125 : decode code 1125 = .ok (.if_icmp .eq 450, 3) := by decide +kernel
theorem dL_1130 : decode code 1130 = .ok (.aload_n 1, 1) := by decide +kernel
theorem dA_1131 : AD 1131 1 := by unfold AD; decide +kernel
theorem dA_1136 : AD 1136 2 := by unfold AD; decide +kernel
theorem dL_1141 : decode code 1141 = .ok (.invokevirtual 124, 3) := by decide +kernel
theorem dL_1144 : decode code 1144 = .ok (.aload_n 2, 1) := by decide +kernel
theorem dA_1145 : AD 1145 1 := by unfold AD; decide +kernel
theorem dA_1150 : AD 1150 2 := by unfold AD; decide +kernel
theorem dL_1155 : decode code 1155 = .ok (.invokevirtual 127, 3) := by decide +kernel
theorem dL_1158 : decode code 1158 = .ok (.if_icmp .eq 417, 3) := by decide +kernel
theorem dL_1163 : decode code 1163 = .ok (.aload_n 1, 1) := by decide +kernel
theorem dA_1164 : AD 1164 1 := by unfold AD; decide +kernel
theorem dL_1169 : decode code 1169 = .ok (.invokevirtual 128, 3) := by decide +kernel
theorem dL_1172 : decode code 1172 = .ok (.aload_n 2, 1) := by decide +kernel
theorem dA_1173 : AD 1173 1 := by unfold AD; decide +kernel
theorem dL_1178 : decode code 1178 = .ok (.invokevirtual 131, 3) := by decide +kernel
theorem dL_1181 : decode code 1181 = .ok (.if_icmp .eq 394, 3) := by decide +kernel
theorem dL_1186 : decode code 1186 = .ok (.aload_n 1, 1) := by decide +kernel
theorem dA_1187 : AD 1187 1 := by unfold AD; decide +kernel
theorem dA_1192 : AD 1192 2 := by unfold AD; decide +kernel
theorem dL_1197 : decode code 1197 = .ok (.invokevirtual 132, 3) := by decide +kernel
theorem dL_1200 : decode code 1200 = .ok (.aload_n 2, 1) := by decide +kernel
theorem dA_1201 : AD 1201 1 := by unfold AD; decide +kernel
theorem dA_1206 : AD 1206 2 := by unfold AD; decide +kernel
theorem dL_1211 : decode code 1211 = .ok (.invokevirtual 135, 3) := by decide +kernel
theorem dL_1214 : decode code 1214 = .ok (.if_icmp .eq 361, 3) := by decide +kernel
theorem dL_1219 : decode code 1219 = .ok (.aload_n 1, 1) := by decide +kernel
theorem dA_1220 : AD 1220 1 := by unfold AD; decide +kernel
theorem dL_1225 : decode code 1225 = .ok (.invokevirtual 136, 3) := by decide +kernel
theorem dL_1228 : decode code 1228 = .ok (.aload_n 2, 1) := by decide +kernel
theorem dA_1229 : AD 1229 1 := by unfold AD; decide +kernel
theorem dL_1234 : decode code 1234 = .ok (.invokevirtual 139, 3) := by decide +kernel
theorem dL_1237 : decode code 1237 = .ok (.if_icmp .eq 338, 3) := by decide +kernel
theorem dL_1242 : decode code 1242 = .ok (.aload_n 1, 1) := by decide +kernel
theorem dA_1243 : AD 1243 1 := by unfold AD; decide +kernel
theorem dA_1248 : AD 1248 2 := by unfold AD; decide +kernel
theorem dA_1253 : AD 1253 3 := by unfold AD; decide +kernel
theorem dL_1258 : decode code 1258 = .ok (.invokevirtual 140, 3) := by decide +kernel
theorem dL_1261 : decode code 1261 = .ok (.aload_n 2, 1) := by decide +kernel
theorem dA_1262 : AD 1262 1 := by unfold AD; decide +kernel
theorem dA_1267 : AD 1267 2 := by unfold AD; decide +kernel
theorem dA_1272 : AD 1272 3 := by unfold AD; decide +kernel
theorem dL_1277 : decode code 1277 = .ok (.invokevirtual 143, 3) := by decide +kernel
theorem dL_1280 : decode code 1280 = .ok (.if_icmp .eq 295, 3) := by decide +kernel
theorem dL_1285 : decode code 1285 = .ok (.aload_n 1, 1) := by decide +kernel

