theorem d_lw_1111 : decode code 1111 = .ok (.iaload, 1) := by decide +kernel
theorem d_lw_1112 : decode code 1112 = .ok (.invokevirtual 133, 3) := by decide +kernel
theorem d_lw_1115 : decode code 1115 = .ok (.lcmp, 1) := by decide +kernel
theorem d_lw_1116 : decode code 1116 = .ok (.ifCond .eq 80, 3) := by decide +kernel
theorem d_lw_1119 : decode code 1119 = .ok (.iconst 0, 1) := by decide +kernel
theorem d_lw_1120 : decode code 1120 = .ok (.ireturn, 1) := by decide +kernel
theorem d_lw_1121 : decode code 1121 = .ok (.aload_n 1, 1) := by decide +kernel
theorem d_lw_1122 : decode code 1122 = .ok (.aload_n 0, 1) := by decide +kernel
theorem d_lw_1123 : decode code 1123 = .ok (.iload 4, 2) := by decide +kernel
theorem d_lw_1125 : decode code 1125 = .ok (.iconst 1, 1) := by decide +kernel
theorem d_lw_1126 : decode code 1126 = .ok (.iadd, 1) := by decide +kernel
theorem d_lw_1127 : decode code 1127 = .ok (.iaload, 1) := by decide +kernel
theorem d_lw_1128 : decode code 1128 = .ok (.aload_n 0, 1) := by decide +kernel
theorem d_lw_1129 : decode code 1129 = .ok (.iload 4, 2) := by decide +kernel
theorem d_lw_1131 : decode code 1131 = .ok (.iconst 2, 1) := by decide +kernel
theorem d_lw_1132 : decode code 1132 = .ok (.iadd, 1) := by decide +kernel
theorem d_lw_1133 : decode code 1133 = .ok (.iaload, 1) := by decide +kernel
theorem d_lw_1134 : decode code 1134 = .ok (.aload_n 0, 1) := by decide +kernel
theorem d_lw_1135 : decode code 1135 = .ok (.iload 4, 2) := by decide +kernel
theorem d_lw_1137 : decode code 1137 = .ok (.iconst 3, 1) := by decide +kernel
theorem d_lw_1138 : decode code 1138 = .ok (.iadd, 1) := by decide +kernel
theorem d_lw_1139 : decode code 1139 = .ok (.iaload, 1) := by decide +kernel
theorem d_lw_1140 : decode code 1140 = .ok (.invokevirtual 134, 3) := by decide +kernel
theorem d_lw_1143 : decode code 1143 = .ok (.aload_n 2, 1) := by decide +kernel
theorem d_lw_1144 : decode code 1144 = .ok (.aload_n 0, 1) := by decide +kernel
theorem d_lw_1145 : decode code 1145 = .ok (.iload 4, 2) := by decide +kernel
theorem d_lw_1147 : decode code 1147 = .ok (.iconst 1, 1) := by decide +kernel
theorem d_lw_1148 : decode code 1148 = .ok (.iadd, 1) := by decide +kernel
theorem d_lw_1149 : decode code 1149 = .ok (.iaload, 1) := by decide +kernel
theorem d_lw_1150 : decode code 1150 = .ok (.aload_n 0, 1) := by decide +kernel
theorem d_lw_1151 : decode code 1151 = .ok (.iload 4, 2) := by decide +kernel
theorem d_lw_1153 : decode code 1153 = .ok (.iconst 2, 1) := by decide +kernel
theorem d_lw_1154 : decode code 1154 = .ok (.iadd, 1) := by decide +kernel
theorem d_lw_1155 : decode code 1155 = .ok (.iaload, 1) := by decide +kernel
theorem d_lw_1156 : decode code 1156 = .ok (.aload_n 0, 1) := by decide +kernel
theorem d_lw_1157 : decode code 1157 = .ok (.iload 4, 2) := by decide +kernel
theorem d_lw_1159 : decode code 1159 = .ok (.iconst 3, 1) := by decide +kernel
theorem d_lw_1160 : decode code 1160 = .ok (.iadd, 1) := by decide +kernel
theorem d_lw_1161 : decode code 1161 = .ok (.iaload, 1) := by decide +kernel
theorem d_lw_1162 : decode code 1162 = .ok (.invokevirtual 138, 3) := by decide +kernel
theorem d_lw_1165 : decode code 1165 = .ok (.lcmp, 1) := by decide +kernel
theorem d_lw_1166 : decode code 1166 = .ok (.ifCond .eq 30, 3) := by decide +kernel
theorem d_lw_1169 : decode code 1169 = .ok (.iconst 0, 1) := by decide +kernel
theorem d_lw_1170 : decode code 1170 = .ok (.ireturn, 1) := by decide +kernel
theorem d_lw_1171 : decode code 1171 = .ok (.aload_n 1, 1) := by decide +kernel
theorem d_lw_1172 : decode code 1172 = .ok (.aload_n 0, 1) := by decide +kernel
theorem d_lw_1173 : decode code 1173 = .ok (.iload 4, 2) := by decide +kernel
theorem d_lw_1175 : decode code 1175 = .ok (.iconst 1, 1) := by decide +kernel
theorem d_lw_1176 : decode code 1176 = .ok (.iadd, 1) := by decide +kernel
theorem d_lw_1177 : decode code 1177 = .ok (.iaload, 1) := by decide +kernel
theorem d_lw_1178 : decode code 1178 = .ok (.invokevirtual 139, 3) := by decide +kernel
theorem d_lw_1181 : decode code 1181 = .ok (.aload_n 2, 1) := by decide +kernel
theorem d_lw_1182 : decode code 1182 = .ok (.aload_n 0, 1) := by decide +kernel
theorem d_lw_1183 : decode code 1183 = .ok (.iload 4, 2) := by decide +kernel
theorem d_lw_1185 : decode code 1185 = .ok (.iconst 1, 1) := by decide +kernel
theorem d_lw_1186 : decode code 1186 = .ok (.iadd, 1) := by decide +kernel
theorem d_lw_1187 : decode code 1187 = .ok (.iaload, 1) := by decide +kernel
theorem d_lw_1188 : decode code 1188 = .ok (.invokevirtual 142, 3) := by decide +kernel
theorem d_lw_1191 : decode code 1191 = .ok (.if_icmp .eq 5, 3) := by decide +kernel
theorem d_lw_1194 : decode code 1194 = .ok (.iconst 0, 1) := by decide +kernel
theorem d_lw_1195 : decode code 1195 = .ok (.ireturn, 1) := by decide +kernel
theorem d_lw_1196 : decode code 1196 = .ok (.iinc 4 7, 3) := by decide +kernel
theorem d_lw_1199 : decode code 1199 = .ok (.goto (-1176), 3) := by decide +kernel
theorem d_lw_1202 : decode code 1202 = .ok (.iconst 1, 1) := by decide +kernel
theorem d_lw_1203 : decode code 1203 = .ok (.ireturn, 1) := by decide +kernel
