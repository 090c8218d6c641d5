/-! the law: cases 4 -/
theorem dL_law_979 : decode code 979 = .ok (.aload_n 1, 1) := by decide +kernel
theorem dL_law_980 : decode code 980 = .ok (.aload_n 0, 1) := by decide +kernel
theorem dL_law_981 : decode code 981 = .ok (.iload 4, 2) := by decide +kernel
theorem dL_law_983 : decode code 983 = .ok (.iconst 1, 1) := by decide +kernel
theorem dL_law_984 : decode code 984 = .ok (.iadd, 1) := by decide +kernel
theorem dL_law_985 : decode code 985 = .ok (.iaload, 1) := by decide +kernel
theorem dL_law_986 : decode code 986 = .ok (.aload_n 0, 1) := by decide +kernel
theorem dL_law_987 : decode code 987 = .ok (.iload 4, 2) := by decide +kernel
theorem dL_law_989 : decode code 989 = .ok (.iconst 2, 1) := by decide +kernel
theorem dL_law_990 : decode code 990 = .ok (.iadd, 1) := by decide +kernel
theorem dL_law_991 : decode code 991 = .ok (.iaload, 1) := by decide +kernel
theorem dL_law_992 : decode code 992 = .ok (.aload_n 0, 1) := by decide +kernel
theorem dL_law_993 : decode code 993 = .ok (.iload 4, 2) := by decide +kernel
theorem dL_law_995 : decode code 995 = .ok (.iconst 3, 1) := by decide +kernel
theorem dL_law_996 : decode code 996 = .ok (.iadd, 1) := by decide +kernel
theorem dL_law_997 : decode code 997 = .ok (.iaload, 1) := by decide +kernel
theorem dL_law_998 : decode code 998 = .ok (.aload_n 0, 1) := by decide +kernel
theorem dL_law_999 : decode code 999 = .ok (.iload 4, 2) := by decide +kernel
theorem dL_law_1001 : decode code 1001 = .ok (.iconst 4, 1) := by decide +kernel
theorem dL_law_1002 : decode code 1002 = .ok (.iadd, 1) := by decide +kernel
theorem dL_law_1003 : decode code 1003 = .ok (.iaload, 1) := by decide +kernel
theorem dL_law_1004 : decode code 1004 = .ok (.aload_n 3, 1) := by decide +kernel
theorem dL_law_1005 : decode code 1005 = .ok (.invokestatic 137, 3) := by decide +kernel
theorem dL_law_1008 : decode code 1008 = .ok (.istore 5, 2) := by decide +kernel
theorem dL_law_1010 : decode code 1010 = .ok (.aload_n 2, 1) := by decide +kernel
theorem dL_law_1011 : decode code 1011 = .ok (.aload_n 0, 1) := by decide +kernel
theorem dL_law_1012 : decode code 1012 = .ok (.iload 4, 2) := by decide +kernel
theorem dL_law_1014 : decode code 1014 = .ok (.iconst 1, 1) := by decide +kernel
theorem dL_law_1015 : decode code 1015 = .ok (.iadd, 1) := by decide +kernel
theorem dL_law_1016 : decode code 1016 = .ok (.iaload, 1) := by decide +kernel
theorem dL_law_1017 : decode code 1017 = .ok (.aload_n 0, 1) := by decide +kernel
theorem dL_law_1018 : decode code 1018 = .ok (.iload 4, 2) := by decide +kernel
theorem dL_law_1020 : decode code 1020 = .ok (.iconst 2, 1) := by decide +kernel
theorem dL_law_1021 : decode code 1021 = .ok (.iadd, 1) := by decide +kernel
theorem dL_law_1022 : decode code 1022 = .ok (.iaload, 1) := by decide +kernel
theorem dL_law_1023 : decode code 1023 = .ok (.aload_n 0, 1) := by decide +kernel
theorem dL_law_1024 : decode code 1024 = .ok (.iload 4, 2) := by decide +kernel
theorem dL_law_1026 : decode code 1026 = .ok (.iconst 3, 1) := by decide +kernel
theorem dL_law_1027 : decode code 1027 = .ok (.iadd, 1) := by decide +kernel
theorem dL_law_1028 : decode code 1028 = .ok (.iaload, 1) := by decide +kernel
theorem dL_law_1029 : decode code 1029 = .ok (.aload_n 0, 1) := by decide +kernel
theorem dL_law_1030 : decode code 1030 = .ok (.iload 4, 2) := by decide +kernel
theorem dL_law_1032 : decode code 1032 = .ok (.iconst 4, 1) := by decide +kernel
theorem dL_law_1033 : decode code 1033 = .ok (.iadd, 1) := by decide +kernel
theorem dL_law_1034 : decode code 1034 = .ok (.iaload, 1) := by decide +kernel
theorem dL_law_1035 : decode code 1035 = .ok (.invokevirtual 140, 3) := by decide +kernel
theorem dL_law_1038 : decode code 1038 = .ok (.istore 6, 2) := by decide +kernel
theorem dL_law_1040 : decode code 1040 = .ok (.aload_n 2, 1) := by decide +kernel
theorem dL_law_1041 : decode code 1041 = .ok (.invokevirtual 84, 3) := by decide +kernel
theorem dL_law_1044 : decode code 1044 = .ok (.iload 5, 2) := by decide +kernel
theorem dL_law_1046 : decode code 1046 = .ok (.if_icmp .eq 5, 3) := by decide +kernel
theorem dL_law_1049 : decode code 1049 = .ok (.iconst 0, 1) := by decide +kernel
theorem dL_law_1050 : decode code 1050 = .ok (.ireturn, 1) := by decide +kernel
theorem dL_law_1051 : decode code 1051 = .ok (.iload 5, 2) := by decide +kernel
theorem dL_law_1053 : decode code 1053 = .ok (.ifCond .ne 15, 3) := by decide +kernel
theorem dL_law_1056 : decode code 1056 = .ok (.aload_n 3, 1) := by decide +kernel
theorem dL_law_1057 : decode code 1057 = .ok (.iconst 0, 1) := by decide +kernel
theorem dL_law_1058 : decode code 1058 = .ok (.laload, 1) := by decide +kernel
theorem dL_law_1059 : decode code 1059 = .ok (.iload 6, 2) := by decide +kernel
theorem dL_law_1061 : decode code 1061 = .ok (.i2l, 1) := by decide +kernel
theorem dL_law_1062 : decode code 1062 = .ok (.lcmp, 1) := by decide +kernel
theorem dL_law_1063 : decode code 1063 = .ok (.ifCond .eq 5, 3) := by decide +kernel
theorem dL_law_1066 : decode code 1066 = .ok (.iconst 0, 1) := by decide +kernel
theorem dL_law_1067 : decode code 1067 = .ok (.ireturn, 1) := by decide +kernel
theorem dL_law_1068 : decode code 1068 = .ok (.goto 344, 3) := by decide +kernel
theorem dL_law_1071 : decode code 1071 = .ok (.aload_n 1, 1) := by decide +kernel
theorem dL_law_1072 : decode code 1072 = .ok (.aload_n 0, 1) := by decide +kernel
theorem dL_law_1073 : decode code 1073 = .ok (.iload 4, 2) := by decide +kernel
theorem dL_law_1075 : decode code 1075 = .ok (.iconst 1, 1) := by decide +kernel
theorem dL_law_1076 : decode code 1076 = .ok (.iadd, 1) := by decide +kernel
theorem dL_law_1077 : decode code 1077 = .ok (.iaload, 1) := by decide +kernel
theorem dL_law_1078 : decode code 1078 = .ok (.aload_n 3, 1) := by decide +kernel
theorem dL_law_1079 : decode code 1079 = .ok (.invokestatic 141, 3) := by decide +kernel
theorem dL_law_1082 : decode code 1082 = .ok (.istore 5, 2) := by decide +kernel
theorem dL_law_1084 : decode code 1084 = .ok (.aload_n 2, 1) := by decide +kernel
theorem dL_law_1085 : decode code 1085 = .ok (.aload_n 0, 1) := by decide +kernel
theorem dL_law_1086 : decode code 1086 = .ok (.iload 4, 2) := by decide +kernel
theorem dL_law_1088 : decode code 1088 = .ok (.iconst 1, 1) := by decide +kernel
theorem dL_law_1089 : decode code 1089 = .ok (.iadd, 1) := by decide +kernel
theorem dL_law_1090 : decode code 1090 = .ok (.iaload, 1) := by decide +kernel
theorem dL_law_1091 : decode code 1091 = .ok (.invokevirtual 143, 3) := by decide +kernel
theorem dL_law_1094 : decode code 1094 = .ok (.istore 6, 2) := by decide +kernel
theorem dL_law_1096 : decode code 1096 = .ok (.aload_n 2, 1) := by decide +kernel
theorem dL_law_1097 : decode code 1097 = .ok (.invokevirtual 84, 3) := by decide +kernel
theorem dL_law_1100 : decode code 1100 = .ok (.iload 5, 2) := by decide +kernel
theorem dL_law_1102 : decode code 1102 = .ok (.if_icmp .eq 5, 3) := by decide +kernel
theorem dL_law_1105 : decode code 1105 = .ok (.iconst 0, 1) := by decide +kernel
theorem dL_law_1106 : decode code 1106 = .ok (.ireturn, 1) := by decide +kernel
theorem dL_law_1107 : decode code 1107 = .ok (.iload 5, 2) := by decide +kernel
theorem dL_law_1109 : decode code 1109 = .ok (.ifCond .ne 15, 3) := by decide +kernel
theorem dL_law_1112 : decode code 1112 = .ok (.aload_n 3, 1) := by decide +kernel
theorem dL_law_1113 : decode code 1113 = .ok (.iconst 0, 1) := by decide +kernel
theorem dL_law_1114 : decode code 1114 = .ok (.laload, 1) := by decide +kernel
theorem dL_law_1115 : decode code 1115 = .ok (.iload 6, 2) := by decide +kernel
theorem dL_law_1117 : decode code 1117 = .ok (.i2l, 1) := by decide +kernel
theorem dL_law_1118 : decode code 1118 = .ok (.lcmp, 1) := by decide +kernel
theorem dL_law_1119 : decode code 1119 = .ok (.ifCond .eq 5, 3) := by decide +kernel
theorem dL_law_1122 : decode code 1122 = .ok (.iconst 0, 1) := by decide +kernel
theorem dL_law_1123 : decode code 1123 = .ok (.ireturn, 1) := by decide +kernel
theorem dL_law_1124 : decode code 1124 = .ok (.goto 288, 3) := by decide +kernel
theorem dL_law_1127 : decode code 1127 = .ok (.aload_n 1, 1) := by decide +kernel
theorem dL_law_1128 : decode code 1128 = .ok (.aload_n 0, 1) := by decide +kernel
theorem dL_law_1129 : decode code 1129 = .ok (.iload 4, 2) := by decide +kernel
theorem dL_law_1131 : decode code 1131 = .ok (.iconst 1, 1) := by decide +kernel
theorem dL_law_1132 : decode code 1132 = .ok (.iadd, 1) := by decide +kernel
theorem dL_law_1133 : decode code 1133 = .ok (.iaload, 1) := by decide +kernel
theorem dL_law_1134 : decode code 1134 = .ok (.aload_n 0, 1) := by decide +kernel
theorem dL_law_1135 : decode code 1135 = .ok (.iload 4, 2) := by decide +kernel
theorem dL_law_1137 : decode code 1137 = .ok (.iconst 2, 1) := by decide +kernel
theorem dL_law_1138 : decode code 1138 = .ok (.iadd, 1) := by decide +kernel
theorem dL_law_1139 : decode code 1139 = .ok (.iaload, 1) := by decide +kernel
theorem dL_law_1140 : decode code 1140 = .ok (.aload_n 3, 1) := by decide +kernel
theorem dL_law_1141 : decode code 1141 = .ok (.invokestatic 144, 3) := by decide +kernel
theorem dL_law_1144 : decode code 1144 = .ok (.istore 5, 2) := by decide +kernel
theorem dL_law_1146 : decode code 1146 = .ok (.aload_n 2, 1) := by decide +kernel
theorem dL_law_1147 : decode code 1147 = .ok (.aload_n 0, 1) := by decide +kernel
theorem dL_law_1148 : decode code 1148 = .ok (.iload 4, 2) := by decide +kernel
theorem dL_law_1150 : decode code 1150 = .ok (.iconst 1, 1) := by decide +kernel
theorem dL_law_1151 : decode code 1151 = .ok (.iadd, 1) := by decide +kernel
theorem dL_law_1152 : decode code 1152 = .ok (.iaload, 1) := by decide +kernel
theorem dL_law_1153 : decode code 1153 = .ok (.aload_n 0, 1) := by decide +kernel
theorem dL_law_1154 : decode code 1154 = .ok (.iload 4, 2) := by decide +kernel
theorem dL_law_1156 : decode code 1156 = .ok (.iconst 2, 1) := by decide +kernel
theorem dL_law_1157 : decode code 1157 = .ok (.iadd, 1) := by decide +kernel
theorem dL_law_1158 : decode code 1158 = .ok (.iaload, 1) := by decide +kernel
theorem dL_law_1159 : decode code 1159 = .ok (.invokevirtual 146, 3) := by decide +kernel
theorem dL_law_1162 : decode code 1162 = .ok (.istore 6, 2) := by decide +kernel
theorem dL_law_1164 : decode code 1164 = .ok (.aload_n 2, 1) := by decide +kernel
theorem dL_law_1165 : decode code 1165 = .ok (.invokevirtual 84, 3) := by decide +kernel
theorem dL_law_1168 : decode code 1168 = .ok (.iload 5, 2) := by decide +kernel
theorem dL_law_1170 : decode code 1170 = .ok (.if_icmp .eq 5, 3) := by decide +kernel
theorem dL_law_1173 : decode code 1173 = .ok (.iconst 0, 1) := by decide +kernel
theorem dL_law_1174 : decode code 1174 = .ok (.ireturn, 1) := by decide +kernel
theorem dL_law_1175 : decode code 1175 = .ok (.iload 5, 2) := by decide +kernel
theorem dL_law_1177 : decode code 1177 = .ok (.ifCond .ne 15, 3) := by decide +kernel
theorem dL_law_1180 : decode code 1180 = .ok (.aload_n 3, 1) := by decide +kernel
theorem dL_law_1181 : decode code 1181 = .ok (.iconst 0, 1) := by decide +kernel
theorem dL_law_1182 : decode code 1182 = .ok (.laload, 1) := by decide +kernel
theorem dL_law_1183 : decode code 1183 = .ok (.iload 6, 2) := by decide +kernel
theorem dL_law_1185 : decode code 1185 = .ok (.i2l, 1) := by decide +kernel
theorem dL_law_1186 : decode code 1186 = .ok (.lcmp, 1) := by decide +kernel
theorem dL_law_1187 : decode code 1187 = .ok (.ifCond .eq 5, 3) := by decide +kernel
theorem dL_law_1190 : decode code 1190 = .ok (.iconst 0, 1) := by decide +kernel
theorem dL_law_1191 : decode code 1191 = .ok (.ireturn, 1) := by decide +kernel
theorem dL_law_1192 : decode code 1192 = .ok (.goto 220, 3) := by decide +kernel
theorem dL_law_1195 : decode code 1195 = .ok (.aload_n 1, 1) := by decide +kernel
theorem dL_law_1196 : decode code 1196 = .ok (.invokevirtual 147, 3) := by decide +kernel
theorem dL_law_1199 : decode code 1199 = .ok (.aload_n 2, 1) := by decide +kernel
theorem dL_law_1200 : decode code 1200 = .ok (.invokevirtual 150, 3) := by decide +kernel
theorem dL_law_1203 : decode code 1203 = .ok (.if_icmp .eq 209, 3) := by decide +kernel
theorem dL_law_1206 : decode code 1206 = .ok (.iconst 0, 1) := by decide +kernel
theorem dL_law_1207 : decode code 1207 = .ok (.ireturn, 1) := by decide +kernel
section ZW
variable {p : Program} {l : Launch} {e : Env} {s : State} {m : MethodId} {args : Array Value} {below : List Frame} {meth : Method} {c : Code} {Q : State → Prop} {G : zG} {b L : Nat} {xs : Nat → Int32}

set_option maxHeartbeats 4000000 in
set_option maxRecDepth 100000 in
theorem law_strip (C : zLw p l s m args meth c G b L xs) {S : zM} {n i : Int} {H : Heap} {locs : List Loc} {cells slots : Nat} {ls : Array Slot} (hI : zInv S n) (hn : n ≤ 600) (hi : 0 ≤ i ∧ i + 4 < L) (hH : zH G S s H locs) (hls : lv_has ls 9 [(0, .ref b), (1, .ref (za G 8 0)), (2, .ref (za G 9 0)), (3, .ref (za G 8 5)), (4, .int (zI i))]) (hcs : cells + 1 ≤ 629837 ∧ slots + 6 ≤ 7206592)
    (K : ∀ (S' : zM) (ls' : Array Slot), zInv S' (n + 1) → lv_has ls' 9 [(0, .ref b), (1, .ref (za G 8 0)), (2, .ref (za G 9 0)), (3, .ref (za G 8 5)), (4, .int (zI i))] → ∀ (H1 : Heap) (locs1 : List Loc), zH G S' s H1 locs1 → W p l e room_1 s m args below meth c H1 locs1 (cells + 1) (slots + 6) Q (F0 m 1412 ls' [])) :
    W p l e room_1 s m args below meth c H locs cells slots Q (F0 m 979 ls []) := by
  have h := C.h
  have f := zRl_of hI (by omega)
  have hL := C.hL
  refine lv_aload_n h.1 h.2.1 dL_law_979 rfl (lv_at hls 1 rfl) ?_
  refine lv_aload_n h.1 h.2.1 dL_law_980 rfl (lv_at hls 0 rfl) ?_
  refine lv_iload h.1 h.2.1 dL_law_981 (lv_at hls 4 rfl) ?_
  refine zb_ic h dL_law_983 ?_
  refine zb_iadd h dL_law_984 ?_
  refine zld C hH (i := (i + 1)) (by omega) dL_law_985 ?_
  refine lv_aload_n h.1 h.2.1 dL_law_986 rfl (lv_at hls 0 rfl) ?_
  refine lv_iload h.1 h.2.1 dL_law_987 (lv_at hls 4 rfl) ?_
  refine zb_ic h dL_law_989 ?_
  refine zb_iadd h dL_law_990 ?_
  refine zld C hH (i := (i + 2)) (by omega) dL_law_991 ?_
  refine lv_aload_n h.1 h.2.1 dL_law_992 rfl (lv_at hls 0 rfl) ?_
  refine lv_iload h.1 h.2.1 dL_law_993 (lv_at hls 4 rfl) ?_
  refine zb_ic h dL_law_995 ?_
  refine zb_iadd h dL_law_996 ?_
  refine zld C hH (i := (i + 3)) (by omega) dL_law_997 ?_
  refine lv_aload_n h.1 h.2.1 dL_law_998 rfl (lv_at hls 0 rfl) ?_
  refine lv_iload h.1 h.2.1 dL_law_999 (lv_at hls 4 rfl) ?_
  refine zb_ic h dL_law_1001 ?_
  refine zb_iadd h dL_law_1002 ?_
  refine zld C hH (i := (i + 4)) (by omega) dL_law_1003 ?_
  refine lv_aload_n h.1 h.2.1 dL_law_1004 rfl (lv_at hls 3 rfl) ?_
  refine zcXS h C.hX hH (n := 6) (As := [.ref (za G 8 0), .int (zI (zx xs (i + 1))), .int (zI (zx xs (i + 2))), .int (zI (zx xs (i + 3))), .int (zI (zx xs (i + 4))), .ref (za G 8 5)]) (rest := []) (c_L_strip l C.hl G h.2.2.2.2.2.2.2 S (zx xs (i + 1)) (zx_in _ _) (zx xs (i + 2)) (zx_in _ _) (zx xs (i + 3)) (zx_in _ _) (zx xs (i + 4)) (zx_in _ _) f.ms f.w) zc_L_strip zn_L ⟨by decide, by decide⟩ (by decide +kernel) zt_L_strip zm_L_137 hls.1 rfl rfl ⟨rfl, rfl⟩ ⟨Nat.le_of_ble_eq_true rfl, Nat.le_of_ble_eq_true rfl⟩ (Nat.le_of_ble_eq_true rfl) hcs dL_law_1005 (fun r_1 S_1 H locs hq1 hH => ?_)
  have e9 := k9_strip hq1
  have fx := zRx_of hI e9
  refine lv_istore (lv' := [(5, .int r_1), (0, .ref b), (1, .ref (za G 8 0)), (2, .ref (za G 9 0)), (3, .ref (za G 8 5)), (4, .int (zI i))]) h.1 h.2.1 dL_law_1008 hls (by decide) rfl (fun ls hls => ?_)
  refine lv_aload_n h.1 h.2.1 dL_law_1010 rfl (lv_at hls 3 rfl) ?_
  refine lv_aload_n h.1 h.2.1 dL_law_1011 rfl (lv_at hls 1 rfl) ?_
  refine lv_iload h.1 h.2.1 dL_law_1012 (lv_at hls 5 rfl) ?_
  refine zb_ic h dL_law_1014 ?_
  refine zb_iadd h dL_law_1015 ?_
  refine zld C hH (i := (i + 1)) (by omega) dL_law_1016 ?_
  refine lv_aload_n h.1 h.2.1 dL_law_1017 rfl (lv_at hls 1 rfl) ?_
  refine lv_iload h.1 h.2.1 dL_law_1018 (lv_at hls 5 rfl) ?_
  refine zb_ic h dL_law_1020 ?_
  refine zb_iadd h dL_law_1021 ?_
  refine zld C hH (i := (i + 2)) (by omega) dL_law_1022 ?_
  refine lv_aload_n h.1 h.2.1 dL_law_1023 rfl (lv_at hls 1 rfl) ?_
  refine lv_iload h.1 h.2.1 dL_law_1024 (lv_at hls 5 rfl) ?_
  refine zb_ic h dL_law_1026 ?_
  refine zb_iadd h dL_law_1027 ?_
  refine zld C hH (i := (i + 3)) (by omega) dL_law_1028 ?_
  refine lv_aload_n h.1 h.2.1 dL_law_1029 rfl (lv_at hls 1 rfl) ?_
  refine lv_iload h.1 h.2.1 dL_law_1030 (lv_at hls 5 rfl) ?_
  refine zb_ic h dL_law_1032 ?_
  refine zb_iadd h dL_law_1033 ?_
  refine zld C hH (i := (i + 4)) (by omega) dL_law_1034 ?_
  refine zcVi h hH (zr_5 h hH) (As := [.int (zI (zx xs (i + 1))), .int (zI (zx xs (i + 2))), .int (zI (zx xs (i + 3))), .int (zI (zx xs (i + 4)))]) (rest := []) (c_X5_strip l G h.2.2.2.2.2.2.2 S_1 (zx xs (i + 1)) (zx_in _ _) (zx xs (i + 2)) (zx_in _ _) (zx xs (i + 3)) (zx_in _ _) (zx xs (i + 4)) (zx_in _ _) fx.w) zce_X5_strip zcv_X5_strip zm_L_140 hls.1 rfl rfl ⟨rfl, rfl⟩ ⟨Nat.le_of_ble_eq_true rfl, Nat.le_of_ble_eq_true rfl⟩ (Nat.le_of_ble_eq_true rfl) hcs dL_law_1035 (fun r_2 S_2 H locs hq2 hH => ?_)
  refine lv_istore (lv' := [(6, .int r_2), (5, .int r_1), (0, .ref b), (1, .ref (za G 8 0)), (2, .ref (za G 9 0)), (3, .ref (za G 8 5)), (4, .int (zI i))]) h.1 h.2.1 dL_law_1038 hls (by decide) rfl (fun ls hls => ?_)
  exact ztail C (g_strip hI hq1 hq2) hH hls hcs dL_law_1040 dL_law_1041 dL_law_1044 dL_law_1046 dL_law_1051 dL_law_1053 dL_law_1056 dL_law_1057 dL_law_1058 dL_law_1059 dL_law_1061 dL_law_1062 dL_law_1063 dL_law_1068 (by decide) K
set_option maxHeartbeats 4000000 in
set_option maxRecDepth 100000 in
theorem law_count (C : zLw p l s m args meth c G b L xs) {S : zM} {n i : Int} {H : Heap} {locs : List Loc} {cells slots : Nat} {ls : Array Slot} (hI : zInv S n) (hn : n ≤ 600) (hi : 0 ≤ i ∧ i + 4 < L) (hH : zH G S s H locs) (hls : lv_has ls 9 [(0, .ref b), (1, .ref (za G 8 0)), (2, .ref (za G 9 0)), (3, .ref (za G 8 5)), (4, .int (zI i))]) (hcs : cells + 1 ≤ 629837 ∧ slots + 6 ≤ 7206592)
    (K : ∀ (S' : zM) (ls' : Array Slot), zInv S' (n + 1) → lv_has ls' 9 [(0, .ref b), (1, .ref (za G 8 0)), (2, .ref (za G 9 0)), (3, .ref (za G 8 5)), (4, .int (zI i))] → ∀ (H1 : Heap) (locs1 : List Loc), zH G S' s H1 locs1 → W p l e room_1 s m args below meth c H1 locs1 (cells + 1) (slots + 6) Q (F0 m 1412 ls' [])) :
    W p l e room_1 s m args below meth c H locs cells slots Q (F0 m 1071 ls []) := by
  have h := C.h
  have f := zRl_of hI (by omega)
  have hL := C.hL
  refine lv_aload_n h.1 h.2.1 dL_law_1071 rfl (lv_at hls 1 rfl) ?_
  refine lv_aload_n h.1 h.2.1 dL_law_1072 rfl (lv_at hls 0 rfl) ?_
  refine lv_iload h.1 h.2.1 dL_law_1073 (lv_at hls 4 rfl) ?_
  refine zb_ic h dL_law_1075 ?_
  refine zb_iadd h dL_law_1076 ?_
  refine zld C hH (i := (i + 1)) (by omega) dL_law_1077 ?_
  refine lv_aload_n h.1 h.2.1 dL_law_1078 rfl (lv_at hls 3 rfl) ?_
  refine zcXS h C.hX hH (n := 3) (As := [.ref (za G 8 0), .int (zI (zx xs (i + 1))), .ref (za G 8 5)]) (rest := []) (c_L_count l C.hl G h.2.2.2.2.2.2.2 S (zx xs (i + 1)) (zx_in _ _) f.ok f.ms f.w) zc_L_count zn_L ⟨by decide, by decide⟩ (by decide +kernel) zt_L_count zm_L_141 hls.1 rfl rfl ⟨rfl, rfl⟩ ⟨Nat.le_of_ble_eq_true rfl, Nat.le_of_ble_eq_true rfl⟩ (Nat.le_of_ble_eq_true rfl) hcs dL_law_1079 (fun r_1 S_1 H locs hq1 hH => ?_)
  have e9 := k9_count hq1
  have fx := zRx_of hI e9
  refine lv_istore (lv' := [(5, .int r_1), (0, .ref b), (1, .ref (za G 8 0)), (2, .ref (za G 9 0)), (3, .ref (za G 8 5)), (4, .int (zI i))]) h.1 h.2.1 dL_law_1082 hls (by decide) rfl (fun ls hls => ?_)
  refine lv_aload_n h.1 h.2.1 dL_law_1084 rfl (lv_at hls 3 rfl) ?_
  refine lv_aload_n h.1 h.2.1 dL_law_1085 rfl (lv_at hls 1 rfl) ?_
  refine lv_iload h.1 h.2.1 dL_law_1086 (lv_at hls 5 rfl) ?_
  refine zb_ic h dL_law_1088 ?_
  refine zb_iadd h dL_law_1089 ?_
  refine zld C hH (i := (i + 1)) (by omega) dL_law_1090 ?_
  refine zcVi h hH (zr_5 h hH) (As := [.int (zI (zx xs (i + 1)))]) (rest := []) (c_X5_count l G h.2.2.2.2.2.2.2 S_1 (zx xs (i + 1)) (zx_in _ _) fx.w) zce_X5_count zcv_X5_count zm_L_143 hls.1 rfl rfl ⟨rfl, rfl⟩ ⟨Nat.le_of_ble_eq_true rfl, Nat.le_of_ble_eq_true rfl⟩ (Nat.le_of_ble_eq_true rfl) hcs dL_law_1091 (fun r_2 S_2 H locs hq2 hH => ?_)
  refine lv_istore (lv' := [(6, .int r_2), (5, .int r_1), (0, .ref b), (1, .ref (za G 8 0)), (2, .ref (za G 9 0)), (3, .ref (za G 8 5)), (4, .int (zI i))]) h.1 h.2.1 dL_law_1094 hls (by decide) rfl (fun ls hls => ?_)
  exact ztail C (g_count hI hq1 hq2) hH hls hcs dL_law_1096 dL_law_1097 dL_law_1100 dL_law_1102 dL_law_1107 dL_law_1109 dL_law_1112 dL_law_1113 dL_law_1114 dL_law_1115 dL_law_1117 dL_law_1118 dL_law_1119 dL_law_1124 (by decide) K
set_option maxHeartbeats 4000000 in
set_option maxRecDepth 100000 in
theorem law_ifExposed (C : zLw p l s m args meth c G b L xs) {S : zM} {n i : Int} {H : Heap} {locs : List Loc} {cells slots : Nat} {ls : Array Slot} (hI : zInv S n) (hn : n ≤ 600) (hi : 0 ≤ i ∧ i + 4 < L) (hH : zH G S s H locs) (hls : lv_has ls 9 [(0, .ref b), (1, .ref (za G 8 0)), (2, .ref (za G 9 0)), (3, .ref (za G 8 5)), (4, .int (zI i))]) (hcs : cells + 1 ≤ 629837 ∧ slots + 6 ≤ 7206592)
    (K : ∀ (S' : zM) (ls' : Array Slot), zInv S' (n + 1) → lv_has ls' 9 [(0, .ref b), (1, .ref (za G 8 0)), (2, .ref (za G 9 0)), (3, .ref (za G 8 5)), (4, .int (zI i))] → ∀ (H1 : Heap) (locs1 : List Loc), zH G S' s H1 locs1 → W p l e room_1 s m args below meth c H1 locs1 (cells + 1) (slots + 6) Q (F0 m 1412 ls' [])) :
    W p l e room_1 s m args below meth c H locs cells slots Q (F0 m 1127 ls []) := by
  have h := C.h
  have f := zRl_of hI (by omega)
  have hL := C.hL
  refine lv_aload_n h.1 h.2.1 dL_law_1127 rfl (lv_at hls 1 rfl) ?_
  refine lv_aload_n h.1 h.2.1 dL_law_1128 rfl (lv_at hls 0 rfl) ?_
  refine lv_iload h.1 h.2.1 dL_law_1129 (lv_at hls 4 rfl) ?_
  refine zb_ic h dL_law_1131 ?_
  refine zb_iadd h dL_law_1132 ?_
  refine zld C hH (i := (i + 1)) (by omega) dL_law_1133 ?_
  refine lv_aload_n h.1 h.2.1 dL_law_1134 rfl (lv_at hls 0 rfl) ?_
  refine lv_iload h.1 h.2.1 dL_law_1135 (lv_at hls 4 rfl) ?_
  refine zb_ic h dL_law_1137 ?_
  refine zb_iadd h dL_law_1138 ?_
  refine zld C hH (i := (i + 2)) (by omega) dL_law_1139 ?_
  refine lv_aload_n h.1 h.2.1 dL_law_1140 rfl (lv_at hls 3 rfl) ?_
  refine zcXS h C.hX hH (n := 4) (As := [.ref (za G 8 0), .int (zI (zx xs (i + 1))), .int (zI (zx xs (i + 2))), .ref (za G 8 5)]) (rest := []) (c_L_ifExposed l C.hl G h.2.2.2.2.2.2.2 S (zx xs (i + 1)) (zx_in _ _) (zx xs (i + 2)) (zx_in _ _) f.w) zc_L_ifExposed zn_L ⟨by decide, by decide⟩ (by decide +kernel) zt_L_ifExposed zm_L_144 hls.1 rfl rfl ⟨rfl, rfl⟩ ⟨Nat.le_of_ble_eq_true rfl, Nat.le_of_ble_eq_true rfl⟩ (Nat.le_of_ble_eq_true rfl) hcs dL_law_1141 (fun r_1 S_1 H locs hq1 hH => ?_)
  have e9 := k9_ifExposed hq1
  have fx := zRx_of hI e9
  refine lv_istore (lv' := [(5, .int r_1), (0, .ref b), (1, .ref (za G 8 0)), (2, .ref (za G 9 0)), (3, .ref (za G 8 5)), (4, .int (zI i))]) h.1 h.2.1 dL_law_1144 hls (by decide) rfl (fun ls hls => ?_)
  refine lv_aload_n h.1 h.2.1 dL_law_1146 rfl (lv_at hls 3 rfl) ?_
  refine lv_aload_n h.1 h.2.1 dL_law_1147 rfl (lv_at hls 1 rfl) ?_
  refine lv_iload h.1 h.2.1 dL_law_1148 (lv_at hls 5 rfl) ?_
  refine zb_ic h dL_law_1150 ?_
  refine zb_iadd h dL_law_1151 ?_
  refine zld C hH (i := (i + 1)) (by omega) dL_law_1152 ?_
  refine lv_aload_n h.1 h.2.1 dL_law_1153 rfl (lv_at hls 1 rfl) ?_
  refine lv_iload h.1 h.2.1 dL_law_1154 (lv_at hls 5 rfl) ?_
  refine zb_ic h dL_law_1156 ?_
  refine zb_iadd h dL_law_1157 ?_
  refine zld C hH (i := (i + 2)) (by omega) dL_law_1158 ?_
  refine zcVi h hH (zr_5 h hH) (As := [.int (zI (zx xs (i + 1))), .int (zI (zx xs (i + 2)))]) (rest := []) (c_X5_ifExposed l G h.2.2.2.2.2.2.2 S_1 (zx xs (i + 1)) (zx_in _ _) (zx xs (i + 2)) (zx_in _ _) fx.w) zce_X5_ifExposed zcv_X5_ifExposed zm_L_146 hls.1 rfl rfl ⟨rfl, rfl⟩ ⟨Nat.le_of_ble_eq_true rfl, Nat.le_of_ble_eq_true rfl⟩ (Nat.le_of_ble_eq_true rfl) hcs dL_law_1159 (fun r_2 S_2 H locs hq2 hH => ?_)
  refine lv_istore (lv' := [(6, .int r_2), (5, .int r_1), (0, .ref b), (1, .ref (za G 8 0)), (2, .ref (za G 9 0)), (3, .ref (za G 8 5)), (4, .int (zI i))]) h.1 h.2.1 dL_law_1162 hls (by decide) rfl (fun ls hls => ?_)
  exact ztail C (g_ifExposed hI hq1 hq2) hH hls hcs dL_law_1164 dL_law_1165 dL_law_1168 dL_law_1170 dL_law_1175 dL_law_1177 dL_law_1180 dL_law_1181 dL_law_1182 dL_law_1183 dL_law_1185 dL_law_1186 dL_law_1187 dL_law_1192 (by decide) K
set_option maxHeartbeats 4000000 in
set_option maxRecDepth 100000 in
theorem law_bestTime (C : zLw p l s m args meth c G b L xs) {S : zM} {n i : Int} {H : Heap} {locs : List Loc} {cells slots : Nat} {ls : Array Slot} (hI : zInv S n) (hn : n ≤ 600) (hi : 0 ≤ i ∧ i + 4 < L) (hH : zH G S s H locs) (hls : lv_has ls 9 [(0, .ref b), (1, .ref (za G 8 0)), (2, .ref (za G 9 0)), (3, .ref (za G 8 5)), (4, .int (zI i))]) (hcs : cells + 1 ≤ 629837 ∧ slots + 6 ≤ 7206592)
    (K : ∀ (S' : zM) (ls' : Array Slot), zInv S' (n + 1) → lv_has ls' 9 [(0, .ref b), (1, .ref (za G 8 0)), (2, .ref (za G 9 0)), (3, .ref (za G 8 5)), (4, .int (zI i))] → ∀ (H1 : Heap) (locs1 : List Loc), zH G S' s H1 locs1 → W p l e room_1 s m args below meth c H1 locs1 (cells + 1) (slots + 6) Q (F0 m 1412 ls' [])) :
    W p l e room_1 s m args below meth c H locs cells slots Q (F0 m 1195 ls []) := by
  have h := C.h
  have f := zRl_of hI (by omega)
  have hL := C.hL
  refine lv_aload_n h.1 h.2.1 dL_law_1195 rfl (lv_at hls 1 rfl) ?_
  refine zcVi h hH (zr_4 h hH) (As := []) (rest := []) (c_X4_bestTime l G h.2.2.2.2.2.2.2 S f.w) zce_X4_bestTime zcv_X4_bestTime zm_L_147 hls.1 rfl rfl ⟨rfl, rfl⟩ ⟨Nat.le_of_ble_eq_true rfl, Nat.le_of_ble_eq_true rfl⟩ (Nat.le_of_ble_eq_true rfl) ⟨Nat.le_of_succ_le hcs.1, Nat.le_trans (Nat.le_add_right _ 6) hcs.2⟩ dL_law_1196 (fun r_1 S_1 H locs hq1 hH => ?_)
  have e9 := k9_bestTime hq1
  have fx := zRx_of hI e9
  refine lv_aload_n h.1 h.2.1 dL_law_1199 rfl (lv_at hls 2 rfl) ?_
  refine zcVi h hH (zr_5 h hH) (As := []) (rest := [.int r_1]) (c_X5_bestTime l G h.2.2.2.2.2.2.2 S_1 fx.w) zce_X5_bestTime zcv_X5_bestTime zm_L_150 hls.1 rfl rfl ⟨rfl, rfl⟩ ⟨Nat.le_of_ble_eq_true rfl, Nat.le_of_ble_eq_true rfl⟩ (Nat.le_of_ble_eq_true rfl) ⟨Nat.le_of_succ_le hcs.1, Nat.le_trans (Nat.le_add_right _ 6) hcs.2⟩ dL_law_1200 (fun r_2 S_2 H locs hq2 hH => ?_)
  obtain ⟨er, hI2⟩ := g_bestTime hI hq1 hq2
  subst er
  refine lv_icmp_eq (tgt := 1412) h.1 h.2.1 dL_law_1203 (by decide) (fun _ => ?_) (fun c9 => absurd rfl c9)
  refine W.widen (k := cells + 1) (n := slots + 6) (by omega) (by omega) ?_
  exact K S_2 ls hI2 hls H locs hH
end ZW
