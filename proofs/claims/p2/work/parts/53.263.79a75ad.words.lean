theorem dX12_init_1093 : decode cX12_init 1093 = .ok (.putfield 61, 3) := by decide +kernel
theorem dX12_init_1096 : decode cX12_init 1096 = .ok (.aload_n 0, 1) := by decide +kernel
theorem dX12_init_1097 : decode cX12_init 1097 = .ok (.sipush 1200, 3) := by decide +kernel
theorem dX12_init_1100 : decode cX12_init 1100 = .ok (.newarray .int, 2) := by decide +kernel
theorem dX12_init_1102 : decode cX12_init 1102 = .ok (.putfield 64, 3) := by decide +kernel
theorem dX12_init_1105 : decode cX12_init 1105 = .ok (.aload_n 0, 1) := by decide +kernel
theorem dX12_init_1106 : decode cX12_init 1106 = .ok (.bipush 40, 2) := by decide +kernel
theorem dX12_init_1108 : decode cX12_init 1108 = .ok (.newarray .int, 2) := by decide +kernel
theorem dX12_init_1110 : decode cX12_init 1110 = .ok (.putfield 67, 3) := by decide +kernel
theorem dX12_init_1113 : decode cX12_init 1113 = .ok (.aload_n 0, 1) := by decide +kernel
theorem dX12_init_1114 : decode cX12_init 1114 = .ok (.iconst (-1), 1) := by decide +kernel
theorem dX12_init_1115 : decode cX12_init 1115 = .ok (.putfield 70, 3) := by decide +kernel
theorem dX12_init_1118 : decode cX12_init 1118 = .ok (.aload_n 0, 1) := by decide +kernel
theorem dX12_init_1119 : decode cX12_init 1119 = .ok (.sipush 320, 3) := by decide +kernel
theorem dX12_init_1122 : decode cX12_init 1122 = .ok (.newarray .int, 2) := by decide +kernel
theorem dX12_init_1124 : decode cX12_init 1124 = .ok (.putfield 74, 3) := by decide +kernel
theorem dX12_init_1127 : decode cX12_init 1127 = .ok (.aload_n 0, 1) := by decide +kernel
theorem dX12_init_1128 : decode cX12_init 1128 = .ok (.bipush 100, 2) := by decide +kernel
theorem dX12_init_1130 : decode cX12_init 1130 = .ok (.newarray .int, 2) := by decide +kernel
theorem dX12_init_1132 : decode cX12_init 1132 = .ok (.putfield 77, 3) := by decide +kernel
theorem dX12_init_1135 : decode cX12_init 1135 = .ok (.aload_n 0, 1) := by decide +kernel
theorem dX12_init_1136 : decode cX12_init 1136 = .ok (.sipush 140, 3) := by decide +kernel
theorem dX12_init_1139 : decode cX12_init 1139 = .ok (.newarray .int, 2) := by decide +kernel
theorem dX12_init_1141 : decode cX12_init 1141 = .ok (.putfield 80, 3) := by decide +kernel
theorem dX12_init_1144 : decode cX12_init 1144 = .ok (.aload_n 0, 1) := by decide +kernel
theorem dX12_init_1145 : decode cX12_init 1145 = .ok (.sipush 140, 3) := by decide +kernel
theorem dX12_init_1148 : decode cX12_init 1148 = .ok (.newarray .int, 2) := by decide +kernel
theorem dX12_init_1150 : decode cX12_init 1150 = .ok (.putfield 83, 3) := by decide +kernel
theorem dX12_init_1153 : decode cX12_init 1153 = .ok (.aload_n 0, 1) := by decide +kernel
theorem dX12_init_1154 : decode cX12_init 1154 = .ok (.sipush 400, 3) := by decide +kernel
theorem dX12_init_1157 : decode cX12_init 1157 = .ok (.newarray .int, 2) := by decide +kernel
theorem dX12_init_1159 : decode cX12_init 1159 = .ok (.putfield 86, 3) := by decide +kernel
theorem dX12_init_1162 : decode cX12_init 1162 = .ok (.aload_n 0, 1) := by decide +kernel
theorem dX12_init_1163 : decode cX12_init 1163 = .ok (.iconst 4, 1) := by decide +kernel
theorem dX12_init_1164 : decode cX12_init 1164 = .ok (.newarray .int, 2) := by decide +kernel
theorem dX12_init_1166 : decode cX12_init 1166 = .ok (.putfield 89, 3) := by decide +kernel
theorem dX12_init_1169 : decode cX12_init 1169 = .ok (.aload_n 0, 1) := by decide +kernel
theorem dX12_init_1170 : decode cX12_init 1170 = .ok (.iconst 4, 1) := by decide +kernel
theorem dX12_init_1171 : decode cX12_init 1171 = .ok (.newarray .int, 2) := by decide +kernel
theorem dX12_init_1173 : decode cX12_init 1173 = .ok (.putfield 92, 3) := by decide +kernel
theorem dX12_init_1176 : decode cX12_init 1176 = .ok (.aload_n 0, 1) := by decide +kernel
theorem dX12_init_1177 : decode cX12_init 1177 = .ok (.bipush 10, 2) := by decide +kernel
theorem dX12_init_1179 : decode cX12_init 1179 = .ok (.newarray .int, 2) := by decide +kernel
theorem dX12_init_1181 : decode cX12_init 1181 = .ok (.putfield 95, 3) := by decide +kernel
theorem dX12_init_1184 : decode cX12_init 1184 = .ok (.aload_n 0, 1) := by decide +kernel
theorem dX12_init_1185 : decode cX12_init 1185 = .ok (.sipush 420, 3) := by decide +kernel
theorem dX12_init_1188 : decode cX12_init 1188 = .ok (.newarray .int, 2) := by decide +kernel
theorem dX12_init_1190 : decode cX12_init 1190 = .ok (.putfield 98, 3) := by decide +kernel
theorem dX12_init_1193 : decode cX12_init 1193 = .ok (.aload_n 0, 1) := by decide +kernel
theorem dX12_init_1194 : decode cX12_init 1194 = .ok (.bipush 100, 2) := by decide +kernel
theorem dX12_init_1196 : decode cX12_init 1196 = .ok (.newarray .int, 2) := by decide +kernel
theorem dX12_init_1198 : decode cX12_init 1198 = .ok (.putfield 101, 3) := by decide +kernel
theorem dX12_init_1201 : decode cX12_init 1201 = .ok (.aload_n 0, 1) := by decide +kernel
theorem dX12_init_1202 : decode cX12_init 1202 = .ok (.ldc 104, 2) := by decide +kernel
theorem dX12_init_1204 : decode cX12_init 1204 = .ok (.newarray .int, 2) := by decide +kernel
theorem dX12_init_1206 : decode cX12_init 1206 = .ok (.putfield 105, 3) := by decide +kernel
theorem dX12_init_1209 : decode cX12_init 1209 = .ok (.aload_n 0, 1) := by decide +kernel
theorem dX12_init_1210 : decode cX12_init 1210 = .ok (.bipush 10, 2) := by decide +kernel
theorem dX12_init_1212 : decode cX12_init 1212 = .ok (.newarray .int, 2) := by decide +kernel
theorem dX12_init_1214 : decode cX12_init 1214 = .ok (.putfield 108, 3) := by decide +kernel
theorem dX12_init_1217 : decode cX12_init 1217 = .ok (.aload_n 0, 1) := by decide +kernel
theorem dX12_init_1218 : decode cX12_init 1218 = .ok (.sipush 1024, 3) := by decide +kernel
theorem dX12_init_1221 : decode cX12_init 1221 = .ok (.newarray .int, 2) := by decide +kernel
theorem dX12_init_1223 : decode cX12_init 1223 = .ok (.putfield 111, 3) := by decide +kernel
theorem dX12_init_1226 : decode cX12_init 1226 = .ok (.aload_n 0, 1) := by decide +kernel
theorem dX12_init_1227 : decode cX12_init 1227 = .ok (.bipush 10, 2) := by decide +kernel
theorem dX12_init_1229 : decode cX12_init 1229 = .ok (.newarray .int, 2) := by decide +kernel
theorem dX12_init_1231 : decode cX12_init 1231 = .ok (.putfield 114, 3) := by decide +kernel
theorem dX12_init_1234 : decode cX12_init 1234 = .ok (.aload_n 0, 1) := by decide +kernel
theorem dX12_init_1235 : decode cX12_init 1235 = .ok (.bipush 10, 2) := by decide +kernel
theorem dX12_init_1237 : decode cX12_init 1237 = .ok (.newarray .int, 2) := by decide +kernel
theorem dX12_init_1239 : decode cX12_init 1239 = .ok (.putfield 117, 3) := by decide +kernel
theorem dX12_init_1242 : decode cX12_init 1242 = .ok (.aload_n 0, 1) := by decide +kernel
theorem dX12_init_1243 : decode cX12_init 1243 = .ok (.bipush 100, 2) := by decide +kernel
theorem dX12_init_1245 : decode cX12_init 1245 = .ok (.newarray .long, 2) := by decide +kernel
theorem dX12_init_1247 : decode cX12_init 1247 = .ok (.putfield 120, 3) := by decide +kernel
theorem dX12_init_1250 : decode cX12_init 1250 = .ok (.aload_n 0, 1) := by decide +kernel
theorem dX12_init_1251 : decode cX12_init 1251 = .ok (.bipush 100, 2) := by decide +kernel
theorem dX12_init_1253 : decode cX12_init 1253 = .ok (.newarray .long, 2) := by decide +kernel
theorem dX12_init_1255 : decode cX12_init 1255 = .ok (.putfield 124, 3) := by decide +kernel
theorem dX12_init_1258 : decode cX12_init 1258 = .ok (.aload_n 0, 1) := by decide +kernel
theorem dX12_init_1259 : decode cX12_init 1259 = .ok (.sipush 3600, 3) := by decide +kernel
theorem dX12_init_1262 : decode cX12_init 1262 = .ok (.newarray .int, 2) := by decide +kernel
theorem dX12_init_1264 : decode cX12_init 1264 = .ok (.putfield 127, 3) := by decide +kernel
theorem dX12_init_1267 : decode cX12_init 1267 = .ok (.return_, 1) := by decide +kernel
theorem q_1397 : Cond.methodLink RX12 1 Lib.objectInit ∈ GW := inG 1397 (by decide +kernel) (by decide +kernel)
theorem q_1398 : Cond.constant RX12 104 (112640) ∈ GW := inG 1398 (by decide +kernel) (by decide +kernel)
theorem q_176 : Cond.methodLink RX11 3 Lib.objectInit ∈ GW := inG 176 (by decide +kernel) (by decide +kernel)
theorem q_530 : Cond.classLink RX11 16 RX8 ∈ GW := inG 530 (by decide +kernel) (by decide +kernel)
theorem q_531 : Cond.instantiable RX8 9 ∈ GW := inG 531 (by decide +kernel) (by decide +kernel)
theorem q_532 : Cond.methodLink RX11 18 yX8_init ∈ GW := inG 532 (by decide +kernel) (by decide +kernel)
theorem q_533 : Cond.instanceMethod yX8_init ∈ GW := inG 533 (by decide +kernel) (by decide +kernel)
theorem q_534 : Cond.code yX8_init cX8_init 1 none ∈ GW := inG 534 (by decide +kernel) (by decide +kernel)
theorem q_578 : Cond.classLink RX11 23 RX2 ∈ GW := inG 578 (by decide +kernel) (by decide +kernel)
theorem q_579 : Cond.methodLink RX11 25 yX2_init ∈ GW := inG 579 (by decide +kernel) (by decide +kernel)
theorem q_580 : Cond.classLink RX11 30 RX5 ∈ GW := inG 580 (by decide +kernel) (by decide +kernel)
theorem q_581 : Cond.methodLink RX11 32 yX5_init ∈ GW := inG 581 (by decide +kernel) (by decide +kernel)
theorem q_582 : Cond.classLink RX11 37 RX3 ∈ GW := inG 582 (by decide +kernel) (by decide +kernel)
theorem q_583 : Cond.methodLink RX11 39 yX3_init ∈ GW := inG 583 (by decide +kernel) (by decide +kernel)
theorem q_584 : Cond.classLink RX11 44 RX7 ∈ GW := inG 584 (by decide +kernel) (by decide +kernel)
theorem q_585 : Cond.methodLink RX11 46 yX7_init ∈ GW := inG 585 (by decide +kernel) (by decide +kernel)
theorem q_586 : Cond.classLink RX11 51 RX4 ∈ GW := inG 586 (by decide +kernel) (by decide +kernel)
theorem q_587 : Cond.methodLink RX11 53 yX4_init ∈ GW := inG 587 (by decide +kernel) (by decide +kernel)
theorem q_588 : Cond.classLink RX11 58 RX9 ∈ GW := inG 588 (by decide +kernel) (by decide +kernel)
theorem q_589 : Cond.instantiable RX9 3 ∈ GW := inG 589 (by decide +kernel) (by decide +kernel)
theorem q_590 : Cond.methodLink RX11 60 yX9_init ∈ GW := inG 590 (by decide +kernel) (by decide +kernel)
theorem q_591 : Cond.instanceMethod yX9_init ∈ GW := inG 591 (by decide +kernel) (by decide +kernel)
theorem q_592 : Cond.code yX9_init cX9_init 1 none ∈ GW := inG 592 (by decide +kernel) (by decide +kernel)
theorem hdI_X8_init : yX8_init.cls ≠ "java/lang/invoke/MethodHandle" ∧ yX8_init.cls ≠ "java/lang/invoke/VarHandle" ∧ (parseMethodDescriptor yX8_init.desc).map (fun d => d.parameters.length) = some 0 := by decide +kernel
theorem hdI_X9_init : yX9_init.cls ≠ "java/lang/invoke/MethodHandle" ∧ yX9_init.cls ≠ "java/lang/invoke/VarHandle" ∧ (parseMethodDescriptor yX9_init.desc).map (fun d => d.parameters.length) = some 0 := by decide +kernel
