variable {sc : SC}

section LAWC
variable {d mc ms : Nat} {r : zR} {h' : List zO} {i : Nat}
variable {S X R : ZS} {T : TS} {P : ZS} {TU : TS} {q : Nat} {G : Nat → TS} {TN : TS} {fl : Nat → Int64} {fd : Nat → UInt64} {n : Nat} {f : Nat → Int32} {M : ZS} {S' X' R' : ZS} {T' : TS} {P' : ZS} {TU' : TS} {q' : Nat} {G' : Nat → TS} {TN' : TS} {fl' : Nat → Int64} {fd' : Nat → UInt64} {M' : ZS}
theorem l_case16 (hi : i + 6 ≤ n) (hn : n ≤ 3072) (hc : f i &&& 63 = 16) {a : Int32} {d2 : Nat} (h2 : d2 + 1 ≤ d) (hX : zM (n, f) yX6_elementCount cX6_elementCount 1 (some .int) d2 0 0 [.ref 0] (qh S X R T) (.inl (some (.int a))) (qh S X' R' T)) {b : Int32} {d3 : Nat} (h3 : d3 + 1 ≤ d) (hm : zM (n, f) yX7_elementCount cX7_elementCount 1 (some .int) d3 0 0 [.ref 0] (mh M) (.inl (some (.int b))) (mh M')) (hab : a = b)
    (K : Z (n, f) yL_law cL_law 9 (some .boolean) d mc ms 28 (some (.ref 1000202) :: some (.ref 0) :: some (.ref 117) :: some (.ref 115) :: some (.ref 116) :: some (.int (nI (i + 6))) :: [none, none, none]) [] (LH S X' R' T P TU q G TN fl fd n f M') r h') : Z (n, f) yL_law cL_law 9 (some .boolean) d (mc + 1) (ms + 6) 28 (some (.ref 1000202) :: some (.ref 0) :: some (.ref 117) :: some (.ref 115) :: some (.ref 116) :: some (.int (nI (i))) :: [none, none, none]) [] (LH S X R T P TU q G TN fl fd n f M) r h' := by
  refine l_head hi hn ?_
  rw [hc]
  refine z_tabIn (tgt := 971) dL_law_45 (by decide) (by decide) rfl (by decide) ?_
  refine z_aload_1 dL_law_971 ?_
  refine Z.more (mc := mc) (ms := ms) (by omega) (by omega) ?_
  refine l_q6 (As := []) (st := []) hX dL_law_972 zy_X6_elementCount zm_L_231 rfl rfl (Nat.le_of_ble_eq_true rfl) h2 (by decide) ?_
  refine z_aload_2 dL_law_975 ?_
  refine l_m7 (As := []) (st := [.int a]) hm dL_law_976 zy_X7_elementCount zm_L_234 rfl rfl rfl rfl (Nat.le_of_ble_eq_true rfl) h3 (by decide) ?_
  refine z_icmp_eq_t (tgt := 3639) dL_law_979 (by decide) hab ?_
  exact l_next K
theorem l_case17 (hi : i + 6 ≤ n) (hn : n ≤ 3072) (hc : f i &&& 63 = 17) {k : Int32} {d2 mc2 ms2 : Nat} (h2 : d2 + 1 ≤ d) (hmc : mc2 ≤ 1) (hms : ms2 ≤ 6) (hW : zMW (n, f) yL_element cL_element 4 (some .int) d2 mc2 ms2 [.ref 0, .int (f (i + 1)), .ref 115] (WL S X R T P TU q G TN fl) (some (.int k)) (WL S' X' R' T' P' TU' q' G' TN' fl')) {b : Int32} {d3 : Nat} (h3 : d3 + 1 ≤ d) (hm : zM (n, f) yX7_element cX7_element 2 (some .int) d3 0 0 [.ref 0, .int (f (i + 1))] (mh M) (.inl (some (.int b))) (mh M')) (hk : M'.1 15 = k) (hb : k = 0 → fl' 0 = b.toInt64)
    (K : Z (n, f) yL_law cL_law 9 (some .boolean) d mc ms 28 (some (.ref 1000202) :: some (.ref 0) :: some (.ref 117) :: some (.ref 115) :: some (.ref 116) :: some (.int (nI (i + 6))) :: [none, none, none]) [] (LH S' X' R' T' P' TU' q' G' TN' fl' fd n f M') r h') : Z (n, f) yL_law cL_law 9 (some .boolean) d (mc + 1) (ms + 6) 28 (some (.ref 1000202) :: some (.ref 0) :: some (.ref 117) :: some (.ref 115) :: some (.ref 116) :: some (.int (nI (i))) :: [none, none, none]) [] (LH S X R T P TU q G TN fl fd n f M) r h' := by
  refine l_head hi hn ?_
  rw [hc]
  refine z_tabIn (tgt := 984) dL_law_45 (by decide) (by decide) rfl (by decide) ?_
  refine z_aload_1 dL_law_984 ?_
  refine l_arg (j := 1) hi hn (by decide) (by decide) dL_law_985 dL_law_986 dL_law_988 dL_law_989 dL_law_990 ?_
  refine z_aload_3 dL_law_991 ?_
  refine Z.more (mc := mc + mc2) (ms := ms + ms2) (by omega) (by omega) ?_
  refine l_wr (st := []) hW dL_law_992 zy_L_element zm_L_235 rfl (by decide) h2 (by decide) ?_
  refine z_istore_6 dL_law_995 rfl (by decide) ?_
  refine z_aload_2 dL_law_997 ?_
  refine l_arg (j := 1) hi hn (by decide) (by decide) dL_law_998 dL_law_999 dL_law_1001 dL_law_1002 dL_law_1003 ?_
  refine l_m7 (As := [.int (f (i + 1))]) (st := []) hm dL_law_1004 zy_X7_element zm_L_237 rfl rfl rfl rfl (Nat.le_of_ble_eq_true rfl) h3 (by decide) ?_
  refine z_istore_7 dL_law_1007 rfl (by decide) ?_
  refine l_tailI hk hb (by omega) dL_law_1009 dL_law_1010 dL_law_1013 dL_law_1015 dL_law_1020 dL_law_1022 dL_law_1025 dL_law_1026 dL_law_1027 dL_law_1028 dL_law_1030 dL_law_1031 dL_law_1032 dL_law_1037 (by decide) ?_
  exact l_next K
theorem l_case18 (hi : i + 6 ≤ n) (hn : n ≤ 3072) (hc : f i &&& 63 = 18) {k : Int32} {d2 mc2 ms2 : Nat} (h2 : d2 + 1 ≤ d) (hmc : mc2 ≤ 1) (hms : ms2 ≤ 6) (hW : zMW (n, f) yL_sum cL_sum 5 (some .int) d2 mc2 ms2 [.ref 0, .int (f (i + 1)), .int (f (i + 2)), .ref 115] (WL S X R T P TU q G TN fl) (some (.int k)) (WL S' X' R' T' P' TU' q' G' TN' fl')) {b : Int64} {d3 : Nat} (h3 : d3 + 1 ≤ d) (hm : zM (n, f) yX7_sum cX7_sum 3 (some .long) d3 0 0 [.ref 0, .int (f (i + 1)), .int (f (i + 2))] (mh M) (.inl (some (.long b))) (mh M')) (hk : M'.1 15 = k) (hb : k = 0 → fl' 0 = b)
    (K : Z (n, f) yL_law cL_law 9 (some .boolean) d mc ms 28 (some (.ref 1000202) :: some (.ref 0) :: some (.ref 117) :: some (.ref 115) :: some (.ref 116) :: some (.int (nI (i + 6))) :: [none, none, none]) [] (LH S' X' R' T' P' TU' q' G' TN' fl' fd n f M') r h') : Z (n, f) yL_law cL_law 9 (some .boolean) d (mc + 1) (ms + 6) 28 (some (.ref 1000202) :: some (.ref 0) :: some (.ref 117) :: some (.ref 115) :: some (.ref 116) :: some (.int (nI (i))) :: [none, none, none]) [] (LH S X R T P TU q G TN fl fd n f M) r h' := by
  refine l_head hi hn ?_
  rw [hc]
  refine z_tabIn (tgt := 1040) dL_law_45 (by decide) (by decide) rfl (by decide) ?_
  refine z_aload_1 dL_law_1040 ?_
  refine l_arg (j := 1) hi hn (by decide) (by decide) dL_law_1041 dL_law_1042 dL_law_1044 dL_law_1045 dL_law_1046 ?_
  refine l_arg (j := 2) hi hn (by decide) (by decide) dL_law_1047 dL_law_1048 dL_law_1050 dL_law_1051 dL_law_1052 ?_
  refine z_aload_3 dL_law_1053 ?_
  refine Z.more (mc := mc + mc2) (ms := ms + ms2) (by omega) (by omega) ?_
  refine l_wr (st := []) hW dL_law_1054 zy_L_sum zm_L_238 rfl (by decide) h2 (by decide) ?_
  refine z_istore_6 dL_law_1057 rfl (by decide) ?_
  refine z_aload_2 dL_law_1059 ?_
  refine l_arg (j := 1) hi hn (by decide) (by decide) dL_law_1060 dL_law_1061 dL_law_1063 dL_law_1064 dL_law_1065 ?_
  refine l_arg (j := 2) hi hn (by decide) (by decide) dL_law_1066 dL_law_1067 dL_law_1069 dL_law_1070 dL_law_1071 ?_
  refine l_m7 (As := [.int (f (i + 1)), .int (f (i + 2))]) (st := []) hm dL_law_1072 zy_X7_sum zm_L_240 rfl rfl rfl rfl (Nat.le_of_ble_eq_true rfl) h3 (by decide) ?_
  refine z_lstore_7 dL_law_1075 rfl (by decide) ?_
  refine l_tailL hk hb (by omega) dL_law_1077 dL_law_1078 dL_law_1081 dL_law_1083 dL_law_1088 dL_law_1090 dL_law_1093 dL_law_1094 dL_law_1095 dL_law_1096 dL_law_1098 dL_law_1099 dL_law_1104 (by decide) ?_
  exact l_next K
theorem l_case19 (hi : i + 6 ≤ n) (hn : n ≤ 3072) (hc : f i &&& 63 = 19) {k : Int32} {d2 mc2 ms2 : Nat} (h2 : d2 + 1 ≤ d) (hmc : mc2 ≤ 1) (hms : ms2 ≤ 6) (hW : zMW (n, f) yL_least cL_least 5 (some .int) d2 mc2 ms2 [.ref 0, .int (f (i + 1)), .int (f (i + 2)), .ref 115] (WL S X R T P TU q G TN fl) (some (.int k)) (WL S' X' R' T' P' TU' q' G' TN' fl')) {b : Int32} {d3 : Nat} (h3 : d3 + 1 ≤ d) (hm : zM (n, f) yX7_least cX7_least 3 (some .int) d3 0 0 [.ref 0, .int (f (i + 1)), .int (f (i + 2))] (mh M) (.inl (some (.int b))) (mh M')) (hk : M'.1 15 = k) (hb : k = 0 → fl' 0 = b.toInt64)
    (K : Z (n, f) yL_law cL_law 9 (some .boolean) d mc ms 28 (some (.ref 1000202) :: some (.ref 0) :: some (.ref 117) :: some (.ref 115) :: some (.ref 116) :: some (.int (nI (i + 6))) :: [none, none, none]) [] (LH S' X' R' T' P' TU' q' G' TN' fl' fd n f M') r h') : Z (n, f) yL_law cL_law 9 (some .boolean) d (mc + 1) (ms + 6) 28 (some (.ref 1000202) :: some (.ref 0) :: some (.ref 117) :: some (.ref 115) :: some (.ref 116) :: some (.int (nI (i))) :: [none, none, none]) [] (LH S X R T P TU q G TN fl fd n f M) r h' := by
  refine l_head hi hn ?_
  rw [hc]
  refine z_tabIn (tgt := 1107) dL_law_45 (by decide) (by decide) rfl (by decide) ?_
  refine z_aload_1 dL_law_1107 ?_
  refine l_arg (j := 1) hi hn (by decide) (by decide) dL_law_1108 dL_law_1109 dL_law_1111 dL_law_1112 dL_law_1113 ?_
  refine l_arg (j := 2) hi hn (by decide) (by decide) dL_law_1114 dL_law_1115 dL_law_1117 dL_law_1118 dL_law_1119 ?_
  refine z_aload_3 dL_law_1120 ?_
  refine Z.more (mc := mc + mc2) (ms := ms + ms2) (by omega) (by omega) ?_
  refine l_wr (st := []) hW dL_law_1121 zy_L_least zm_L_241 rfl (by decide) h2 (by decide) ?_
  refine z_istore_6 dL_law_1124 rfl (by decide) ?_
  refine z_aload_2 dL_law_1126 ?_
  refine l_arg (j := 1) hi hn (by decide) (by decide) dL_law_1127 dL_law_1128 dL_law_1130 dL_law_1131 dL_law_1132 ?_
  refine l_arg (j := 2) hi hn (by decide) (by decide) dL_law_1133 dL_law_1134 dL_law_1136 dL_law_1137 dL_law_1138 ?_
  refine l_m7 (As := [.int (f (i + 1)), .int (f (i + 2))]) (st := []) hm dL_law_1139 zy_X7_least zm_L_243 rfl rfl rfl rfl (Nat.le_of_ble_eq_true rfl) h3 (by decide) ?_
  refine z_istore_7 dL_law_1142 rfl (by decide) ?_
  refine l_tailI hk hb (by omega) dL_law_1144 dL_law_1145 dL_law_1148 dL_law_1150 dL_law_1155 dL_law_1157 dL_law_1160 dL_law_1161 dL_law_1162 dL_law_1163 dL_law_1165 dL_law_1166 dL_law_1167 dL_law_1172 (by decide) ?_
  exact l_next K
theorem l_case20 (hi : i + 6 ≤ n) (hn : n ≤ 3072) (hc : f i &&& 63 = 20) {k : Int32} {d2 mc2 ms2 : Nat} (h2 : d2 + 1 ≤ d) (hmc : mc2 ≤ 1) (hms : ms2 ≤ 6) (hW : zMW (n, f) yL_greatest cL_greatest 5 (some .int) d2 mc2 ms2 [.ref 0, .int (f (i + 1)), .int (f (i + 2)), .ref 115] (WL S X R T P TU q G TN fl) (some (.int k)) (WL S' X' R' T' P' TU' q' G' TN' fl')) {b : Int32} {d3 : Nat} (h3 : d3 + 1 ≤ d) (hm : zM (n, f) yX7_greatest cX7_greatest 3 (some .int) d3 0 0 [.ref 0, .int (f (i + 1)), .int (f (i + 2))] (mh M) (.inl (some (.int b))) (mh M')) (hk : M'.1 15 = k) (hb : k = 0 → fl' 0 = b.toInt64)
    (K : Z (n, f) yL_law cL_law 9 (some .boolean) d mc ms 28 (some (.ref 1000202) :: some (.ref 0) :: some (.ref 117) :: some (.ref 115) :: some (.ref 116) :: some (.int (nI (i + 6))) :: [none, none, none]) [] (LH S' X' R' T' P' TU' q' G' TN' fl' fd n f M') r h') : Z (n, f) yL_law cL_law 9 (some .boolean) d (mc + 1) (ms + 6) 28 (some (.ref 1000202) :: some (.ref 0) :: some (.ref 117) :: some (.ref 115) :: some (.ref 116) :: some (.int (nI (i))) :: [none, none, none]) [] (LH S X R T P TU q G TN fl fd n f M) r h' := by
  refine l_head hi hn ?_
  rw [hc]
  refine z_tabIn (tgt := 1175) dL_law_45 (by decide) (by decide) rfl (by decide) ?_
  refine z_aload_1 dL_law_1175 ?_
  refine l_arg (j := 1) hi hn (by decide) (by decide) dL_law_1176 dL_law_1177 dL_law_1179 dL_law_1180 dL_law_1181 ?_
  refine l_arg (j := 2) hi hn (by decide) (by decide) dL_law_1182 dL_law_1183 dL_law_1185 dL_law_1186 dL_law_1187 ?_
  refine z_aload_3 dL_law_1188 ?_
  refine Z.more (mc := mc + mc2) (ms := ms + ms2) (by omega) (by omega) ?_
  refine l_wr (st := []) hW dL_law_1189 zy_L_greatest zm_L_244 rfl (by decide) h2 (by decide) ?_
  refine z_istore_6 dL_law_1192 rfl (by decide) ?_
  refine z_aload_2 dL_law_1194 ?_
  refine l_arg (j := 1) hi hn (by decide) (by decide) dL_law_1195 dL_law_1196 dL_law_1198 dL_law_1199 dL_law_1200 ?_
  refine l_arg (j := 2) hi hn (by decide) (by decide) dL_law_1201 dL_law_1202 dL_law_1204 dL_law_1205 dL_law_1206 ?_
  refine l_m7 (As := [.int (f (i + 1)), .int (f (i + 2))]) (st := []) hm dL_law_1207 zy_X7_greatest zm_L_246 rfl rfl rfl rfl (Nat.le_of_ble_eq_true rfl) h3 (by decide) ?_
  refine z_istore_7 dL_law_1210 rfl (by decide) ?_
  refine l_tailI hk hb (by omega) dL_law_1212 dL_law_1213 dL_law_1216 dL_law_1218 dL_law_1223 dL_law_1225 dL_law_1228 dL_law_1229 dL_law_1230 dL_law_1231 dL_law_1233 dL_law_1234 dL_law_1235 dL_law_1240 (by decide) ?_
  exact l_next K
theorem l_case21 (hi : i + 6 ≤ n) (hn : n ≤ 3072) (hc : f i &&& 63 = 21) {k : Int32} {d2 mc2 ms2 : Nat} (h2 : d2 + 1 ≤ d) (hmc : mc2 ≤ 1) (hms : ms2 ≤ 6) (hW : zMW (n, f) yL_firstLeast cL_firstLeast 5 (some .int) d2 mc2 ms2 [.ref 0, .int (f (i + 1)), .int (f (i + 2)), .ref 115] (WL S X R T P TU q G TN fl) (some (.int k)) (WL S' X' R' T' P' TU' q' G' TN' fl')) {b : Int32} {d3 : Nat} (h3 : d3 + 1 ≤ d) (hm : zM (n, f) yX7_firstLeast cX7_firstLeast 3 (some .int) d3 0 0 [.ref 0, .int (f (i + 1)), .int (f (i + 2))] (mh M) (.inl (some (.int b))) (mh M')) (hk : M'.1 15 = k) (hb : k = 0 → fl' 0 = b.toInt64)
    (K : Z (n, f) yL_law cL_law 9 (some .boolean) d mc ms 28 (some (.ref 1000202) :: some (.ref 0) :: some (.ref 117) :: some (.ref 115) :: some (.ref 116) :: some (.int (nI (i + 6))) :: [none, none, none]) [] (LH S' X' R' T' P' TU' q' G' TN' fl' fd n f M') r h') : Z (n, f) yL_law cL_law 9 (some .boolean) d (mc + 1) (ms + 6) 28 (some (.ref 1000202) :: some (.ref 0) :: some (.ref 117) :: some (.ref 115) :: some (.ref 116) :: some (.int (nI (i))) :: [none, none, none]) [] (LH S X R T P TU q G TN fl fd n f M) r h' := by
  refine l_head hi hn ?_
  rw [hc]
  refine z_tabIn (tgt := 1243) dL_law_45 (by decide) (by decide) rfl (by decide) ?_
  refine z_aload_1 dL_law_1243 ?_
  refine l_arg (j := 1) hi hn (by decide) (by decide) dL_law_1244 dL_law_1245 dL_law_1247 dL_law_1248 dL_law_1249 ?_
  refine l_arg (j := 2) hi hn (by decide) (by decide) dL_law_1250 dL_law_1251 dL_law_1253 dL_law_1254 dL_law_1255 ?_
  refine z_aload_3 dL_law_1256 ?_
  refine Z.more (mc := mc + mc2) (ms := ms + ms2) (by omega) (by omega) ?_
  refine l_wr (st := []) hW dL_law_1257 zy_L_firstLeast zm_L_247 rfl (by decide) h2 (by decide) ?_
  refine z_istore_6 dL_law_1260 rfl (by decide) ?_
  refine z_aload_2 dL_law_1262 ?_
  refine l_arg (j := 1) hi hn (by decide) (by decide) dL_law_1263 dL_law_1264 dL_law_1266 dL_law_1267 dL_law_1268 ?_
  refine l_arg (j := 2) hi hn (by decide) (by decide) dL_law_1269 dL_law_1270 dL_law_1272 dL_law_1273 dL_law_1274 ?_
  refine l_m7 (As := [.int (f (i + 1)), .int (f (i + 2))]) (st := []) hm dL_law_1275 zy_X7_firstLeast zm_L_249 rfl rfl rfl rfl (Nat.le_of_ble_eq_true rfl) h3 (by decide) ?_
  refine z_istore_7 dL_law_1278 rfl (by decide) ?_
  refine l_tailI hk hb (by omega) dL_law_1280 dL_law_1281 dL_law_1284 dL_law_1286 dL_law_1291 dL_law_1293 dL_law_1296 dL_law_1297 dL_law_1298 dL_law_1299 dL_law_1301 dL_law_1302 dL_law_1303 dL_law_1308 (by decide) ?_
  exact l_next K
theorem l_case22 (hi : i + 6 ≤ n) (hn : n ≤ 3072) (hc : f i &&& 63 = 22) {k : Int32} {d2 mc2 ms2 : Nat} (h2 : d2 + 1 ≤ d) (hmc : mc2 ≤ 1) (hms : ms2 ≤ 6) (hW : zMW (n, f) yL_firstGreatest cL_firstGreatest 5 (some .int) d2 mc2 ms2 [.ref 0, .int (f (i + 1)), .int (f (i + 2)), .ref 115] (WL S X R T P TU q G TN fl) (some (.int k)) (WL S' X' R' T' P' TU' q' G' TN' fl')) {b : Int32} {d3 : Nat} (h3 : d3 + 1 ≤ d) (hm : zM (n, f) yX7_firstGreatest cX7_firstGreatest 3 (some .int) d3 0 0 [.ref 0, .int (f (i + 1)), .int (f (i + 2))] (mh M) (.inl (some (.int b))) (mh M')) (hk : M'.1 15 = k) (hb : k = 0 → fl' 0 = b.toInt64)
    (K : Z (n, f) yL_law cL_law 9 (some .boolean) d mc ms 28 (some (.ref 1000202) :: some (.ref 0) :: some (.ref 117) :: some (.ref 115) :: some (.ref 116) :: some (.int (nI (i + 6))) :: [none, none, none]) [] (LH S' X' R' T' P' TU' q' G' TN' fl' fd n f M') r h') : Z (n, f) yL_law cL_law 9 (some .boolean) d (mc + 1) (ms + 6) 28 (some (.ref 1000202) :: some (.ref 0) :: some (.ref 117) :: some (.ref 115) :: some (.ref 116) :: some (.int (nI (i))) :: [none, none, none]) [] (LH S X R T P TU q G TN fl fd n f M) r h' := by
  refine l_head hi hn ?_
  rw [hc]
  refine z_tabIn (tgt := 1311) dL_law_45 (by decide) (by decide) rfl (by decide) ?_
  refine z_aload_1 dL_law_1311 ?_
  refine l_arg (j := 1) hi hn (by decide) (by decide) dL_law_1312 dL_law_1313 dL_law_1315 dL_law_1316 dL_law_1317 ?_
  refine l_arg (j := 2) hi hn (by decide) (by decide) dL_law_1318 dL_law_1319 dL_law_1321 dL_law_1322 dL_law_1323 ?_
  refine z_aload_3 dL_law_1324 ?_
  refine Z.more (mc := mc + mc2) (ms := ms + ms2) (by omega) (by omega) ?_
  refine l_wr (st := []) hW dL_law_1325 zy_L_firstGreatest zm_L_250 rfl (by decide) h2 (by decide) ?_
  refine z_istore_6 dL_law_1328 rfl (by decide) ?_
  refine z_aload_2 dL_law_1330 ?_
  refine l_arg (j := 1) hi hn (by decide) (by decide) dL_law_1331 dL_law_1332 dL_law_1334 dL_law_1335 dL_law_1336 ?_
  refine l_arg (j := 2) hi hn (by decide) (by decide) dL_law_1337 dL_law_1338 dL_law_1340 dL_law_1341 dL_law_1342 ?_
  refine l_m7 (As := [.int (f (i + 1)), .int (f (i + 2))]) (st := []) hm dL_law_1343 zy_X7_firstGreatest zm_L_252 rfl rfl rfl rfl (Nat.le_of_ble_eq_true rfl) h3 (by decide) ?_
  refine z_istore_7 dL_law_1346 rfl (by decide) ?_
  refine l_tailI hk hb (by omega) dL_law_1348 dL_law_1349 dL_law_1352 dL_law_1354 dL_law_1359 dL_law_1361 dL_law_1364 dL_law_1365 dL_law_1366 dL_law_1367 dL_law_1369 dL_law_1370 dL_law_1371 dL_law_1376 (by decide) ?_
  exact l_next K
theorem l_case23 (hi : i + 6 ≤ n) (hn : n ≤ 3072) (hc : f i &&& 63 = 23) {k : Int32} {d2 mc2 ms2 : Nat} (h2 : d2 + 1 ≤ d) (hmc : mc2 ≤ 1) (hms : ms2 ≤ 6) (hW : zMW (n, f) yL_leastCount cL_leastCount 5 (some .int) d2 mc2 ms2 [.ref 0, .int (f (i + 1)), .int (f (i + 2)), .ref 115] (WL S X R T P TU q G TN fl) (some (.int k)) (WL S' X' R' T' P' TU' q' G' TN' fl')) {b : Int32} {d3 : Nat} (h3 : d3 + 1 ≤ d) (hm : zM (n, f) yX7_leastCount cX7_leastCount 3 (some .int) d3 0 0 [.ref 0, .int (f (i + 1)), .int (f (i + 2))] (mh M) (.inl (some (.int b))) (mh M')) (hk : M'.1 15 = k) (hb : k = 0 → fl' 0 = b.toInt64)
    (K : Z (n, f) yL_law cL_law 9 (some .boolean) d mc ms 28 (some (.ref 1000202) :: some (.ref 0) :: some (.ref 117) :: some (.ref 115) :: some (.ref 116) :: some (.int (nI (i + 6))) :: [none, none, none]) [] (LH S' X' R' T' P' TU' q' G' TN' fl' fd n f M') r h') : Z (n, f) yL_law cL_law 9 (some .boolean) d (mc + 1) (ms + 6) 28 (some (.ref 1000202) :: some (.ref 0) :: some (.ref 117) :: some (.ref 115) :: some (.ref 116) :: some (.int (nI (i))) :: [none, none, none]) [] (LH S X R T P TU q G TN fl fd n f M) r h' := by
  refine l_head hi hn ?_
  rw [hc]
  refine z_tabIn (tgt := 1379) dL_law_45 (by decide) (by decide) rfl (by decide) ?_
  refine z_aload_1 dL_law_1379 ?_
  refine l_arg (j := 1) hi hn (by decide) (by decide) dL_law_1380 dL_law_1381 dL_law_1383 dL_law_1384 dL_law_1385 ?_
  refine l_arg (j := 2) hi hn (by decide) (by decide) dL_law_1386 dL_law_1387 dL_law_1389 dL_law_1390 dL_law_1391 ?_
  refine z_aload_3 dL_law_1392 ?_
  refine Z.more (mc := mc + mc2) (ms := ms + ms2) (by omega) (by omega) ?_
  refine l_wr (st := []) hW dL_law_1393 zy_L_leastCount zm_L_253 rfl (by decide) h2 (by decide) ?_
  refine z_istore_6 dL_law_1396 rfl (by decide) ?_
  refine z_aload_2 dL_law_1398 ?_
  refine l_arg (j := 1) hi hn (by decide) (by decide) dL_law_1399 dL_law_1400 dL_law_1402 dL_law_1403 dL_law_1404 ?_
  refine l_arg (j := 2) hi hn (by decide) (by decide) dL_law_1405 dL_law_1406 dL_law_1408 dL_law_1409 dL_law_1410 ?_
  refine l_m7 (As := [.int (f (i + 1)), .int (f (i + 2))]) (st := []) hm dL_law_1411 zy_X7_leastCount zm_L_255 rfl rfl rfl rfl (Nat.le_of_ble_eq_true rfl) h3 (by decide) ?_
  refine z_istore_7 dL_law_1414 rfl (by decide) ?_
  refine l_tailI hk hb (by omega) dL_law_1416 dL_law_1417 dL_law_1420 dL_law_1422 dL_law_1427 dL_law_1429 dL_law_1432 dL_law_1433 dL_law_1434 dL_law_1435 dL_law_1437 dL_law_1438 dL_law_1439 dL_law_1444 (by decide) ?_
  exact l_next K
theorem l_case24 (hi : i + 6 ≤ n) (hn : n ≤ 3072) (hc : f i &&& 63 = 24) {k : Int32} {d2 mc2 ms2 : Nat} (h2 : d2 + 1 ≤ d) (hmc : mc2 ≤ 1) (hms : ms2 ≤ 6) (hW : zMW (n, f) yL_greatestCount cL_greatestCount 5 (some .int) d2 mc2 ms2 [.ref 0, .int (f (i + 1)), .int (f (i + 2)), .ref 115] (WL S X R T P TU q G TN fl) (some (.int k)) (WL S' X' R' T' P' TU' q' G' TN' fl')) {b : Int32} {d3 : Nat} (h3 : d3 + 1 ≤ d) (hm : zM (n, f) yX7_greatestCount cX7_greatestCount 3 (some .int) d3 0 0 [.ref 0, .int (f (i + 1)), .int (f (i + 2))] (mh M) (.inl (some (.int b))) (mh M')) (hk : M'.1 15 = k) (hb : k = 0 → fl' 0 = b.toInt64)
    (K : Z (n, f) yL_law cL_law 9 (some .boolean) d mc ms 28 (some (.ref 1000202) :: some (.ref 0) :: some (.ref 117) :: some (.ref 115) :: some (.ref 116) :: some (.int (nI (i + 6))) :: [none, none, none]) [] (LH S' X' R' T' P' TU' q' G' TN' fl' fd n f M') r h') : Z (n, f) yL_law cL_law 9 (some .boolean) d (mc + 1) (ms + 6) 28 (some (.ref 1000202) :: some (.ref 0) :: some (.ref 117) :: some (.ref 115) :: some (.ref 116) :: some (.int (nI (i))) :: [none, none, none]) [] (LH S X R T P TU q G TN fl fd n f M) r h' := by
  refine l_head hi hn ?_
  rw [hc]
  refine z_tabIn (tgt := 1447) dL_law_45 (by decide) (by decide) rfl (by decide) ?_
  refine z_aload_1 dL_law_1447 ?_
  refine l_arg (j := 1) hi hn (by decide) (by decide) dL_law_1448 dL_law_1449 dL_law_1451 dL_law_1452 dL_law_1453 ?_
  refine l_arg (j := 2) hi hn (by decide) (by decide) dL_law_1454 dL_law_1455 dL_law_1457 dL_law_1458 dL_law_1459 ?_
  refine z_aload_3 dL_law_1460 ?_
  refine Z.more (mc := mc + mc2) (ms := ms + ms2) (by omega) (by omega) ?_
  refine l_wr (st := []) hW dL_law_1461 zy_L_greatestCount zm_L_256 rfl (by decide) h2 (by decide) ?_
  refine z_istore_6 dL_law_1464 rfl (by decide) ?_
  refine z_aload_2 dL_law_1466 ?_
  refine l_arg (j := 1) hi hn (by decide) (by decide) dL_law_1467 dL_law_1468 dL_law_1470 dL_law_1471 dL_law_1472 ?_
  refine l_arg (j := 2) hi hn (by decide) (by decide) dL_law_1473 dL_law_1474 dL_law_1476 dL_law_1477 dL_law_1478 ?_
  refine l_m7 (As := [.int (f (i + 1)), .int (f (i + 2))]) (st := []) hm dL_law_1479 zy_X7_greatestCount zm_L_258 rfl rfl rfl rfl (Nat.le_of_ble_eq_true rfl) h3 (by decide) ?_
  refine z_istore_7 dL_law_1482 rfl (by decide) ?_
  refine l_tailI hk hb (by omega) dL_law_1484 dL_law_1485 dL_law_1488 dL_law_1490 dL_law_1495 dL_law_1497 dL_law_1500 dL_law_1501 dL_law_1502 dL_law_1503 dL_law_1505 dL_law_1506 dL_law_1507 dL_law_1512 (by decide) ?_
  exact l_next K
theorem l_case25 (hi : i + 6 ≤ n) (hn : n ≤ 3072) (hc : f i &&& 63 = 25) {k : Int32} {d2 mc2 ms2 : Nat} (h2 : d2 + 1 ≤ d) (hmc : mc2 ≤ 1) (hms : ms2 ≤ 6) (hW : zMW (n, f) yL_runCount cL_runCount 5 (some .int) d2 mc2 ms2 [.ref 0, .int (f (i + 1)), .int (f (i + 2)), .ref 115] (WL S X R T P TU q G TN fl) (some (.int k)) (WL S' X' R' T' P' TU' q' G' TN' fl')) {b : Int32} {d3 : Nat} (h3 : d3 + 1 ≤ d) (hm : zM (n, f) yX7_runCount cX7_runCount 5 (some .int) d3 0 0 [.ref 0, .int (f (i + 1)), .int (f (i + 2))] (mh M) (.inl (some (.int b))) (mh M')) (hk : M'.1 15 = k) (hb : k = 0 → fl' 0 = b.toInt64)
    (K : Z (n, f) yL_law cL_law 9 (some .boolean) d mc ms 28 (some (.ref 1000202) :: some (.ref 0) :: some (.ref 117) :: some (.ref 115) :: some (.ref 116) :: some (.int (nI (i + 6))) :: [none, none, none]) [] (LH S' X' R' T' P' TU' q' G' TN' fl' fd n f M') r h') : Z (n, f) yL_law cL_law 9 (some .boolean) d (mc + 1) (ms + 6) 28 (some (.ref 1000202) :: some (.ref 0) :: some (.ref 117) :: some (.ref 115) :: some (.ref 116) :: some (.int (nI (i))) :: [none, none, none]) [] (LH S X R T P TU q G TN fl fd n f M) r h' := by
  refine l_head hi hn ?_
  rw [hc]
  refine z_tabIn (tgt := 1515) dL_law_45 (by decide) (by decide) rfl (by decide) ?_
  refine z_aload_1 dL_law_1515 ?_
  refine l_arg (j := 1) hi hn (by decide) (by decide) dL_law_1516 dL_law_1517 dL_law_1519 dL_law_1520 dL_law_1521 ?_
  refine l_arg (j := 2) hi hn (by decide) (by decide) dL_law_1522 dL_law_1523 dL_law_1525 dL_law_1526 dL_law_1527 ?_
  refine z_aload_3 dL_law_1528 ?_
  refine Z.more (mc := mc + mc2) (ms := ms + ms2) (by omega) (by omega) ?_
  refine l_wr (st := []) hW dL_law_1529 zy_L_runCount zm_L_259 rfl (by decide) h2 (by decide) ?_
  refine z_istore_6 dL_law_1532 rfl (by decide) ?_
  refine z_aload_2 dL_law_1534 ?_
  refine l_arg (j := 1) hi hn (by decide) (by decide) dL_law_1535 dL_law_1536 dL_law_1538 dL_law_1539 dL_law_1540 ?_
  refine l_arg (j := 2) hi hn (by decide) (by decide) dL_law_1541 dL_law_1542 dL_law_1544 dL_law_1545 dL_law_1546 ?_
  refine l_m7 (As := [.int (f (i + 1)), .int (f (i + 2))]) (st := []) hm dL_law_1547 zy_X7_runCount zm_L_261 rfl rfl rfl rfl (Nat.le_of_ble_eq_true rfl) h3 (by decide) ?_
  refine z_istore_7 dL_law_1550 rfl (by decide) ?_
  refine l_tailI hk hb (by omega) dL_law_1552 dL_law_1553 dL_law_1556 dL_law_1558 dL_law_1563 dL_law_1565 dL_law_1568 dL_law_1569 dL_law_1570 dL_law_1571 dL_law_1573 dL_law_1574 dL_law_1575 dL_law_1580 (by decide) ?_
  exact l_next K
theorem l_case26 (hi : i + 6 ≤ n) (hn : n ≤ 3072) (hc : f i &&& 63 = 26) {k : Int32} {d2 mc2 ms2 : Nat} (h2 : d2 + 1 ≤ d) (hmc : mc2 ≤ 1) (hms : ms2 ≤ 6) (hW : zMW (n, f) yL_isAscending cL_isAscending 5 (some .int) d2 mc2 ms2 [.ref 0, .int (f (i + 1)), .int (f (i + 2)), .ref 115] (WL S X R T P TU q G TN fl) (some (.int k)) (WL S' X' R' T' P' TU' q' G' TN' fl')) {b : Bool} {d3 : Nat} (h3 : d3 + 1 ≤ d) (hm : zM (n, f) yX7_isAscending cX7_isAscending 3 (some .boolean) d3 0 0 [.ref 0, .int (f (i + 1)), .int (f (i + 2))] (mh M) (.inl (some (.int (zb b)))) (mh M')) (hk : M'.1 15 = k) (hb : k = 0 → fl' 0 = if b = true then 1 else 0)
    (K : Z (n, f) yL_law cL_law 9 (some .boolean) d mc ms 28 (some (.ref 1000202) :: some (.ref 0) :: some (.ref 117) :: some (.ref 115) :: some (.ref 116) :: some (.int (nI (i + 6))) :: [none, none, none]) [] (LH S' X' R' T' P' TU' q' G' TN' fl' fd n f M') r h') : Z (n, f) yL_law cL_law 9 (some .boolean) d (mc + 1) (ms + 6) 28 (some (.ref 1000202) :: some (.ref 0) :: some (.ref 117) :: some (.ref 115) :: some (.ref 116) :: some (.int (nI (i))) :: [none, none, none]) [] (LH S X R T P TU q G TN fl fd n f M) r h' := by
  refine l_head hi hn ?_
  rw [hc]
  refine z_tabIn (tgt := 1583) dL_law_45 (by decide) (by decide) rfl (by decide) ?_
  refine z_aload_1 dL_law_1583 ?_
  refine l_arg (j := 1) hi hn (by decide) (by decide) dL_law_1584 dL_law_1585 dL_law_1587 dL_law_1588 dL_law_1589 ?_
  refine l_arg (j := 2) hi hn (by decide) (by decide) dL_law_1590 dL_law_1591 dL_law_1593 dL_law_1594 dL_law_1595 ?_
  refine z_aload_3 dL_law_1596 ?_
  refine Z.more (mc := mc + mc2) (ms := ms + ms2) (by omega) (by omega) ?_
  refine l_wr (st := []) hW dL_law_1597 zy_L_isAscending zm_L_262 rfl (by decide) h2 (by decide) ?_
  refine z_istore_6 dL_law_1600 rfl (by decide) ?_
  refine z_aload_2 dL_law_1602 ?_
  refine l_arg (j := 1) hi hn (by decide) (by decide) dL_law_1603 dL_law_1604 dL_law_1606 dL_law_1607 dL_law_1608 ?_
  refine l_arg (j := 2) hi hn (by decide) (by decide) dL_law_1609 dL_law_1610 dL_law_1612 dL_law_1613 dL_law_1614 ?_
  refine l_m7 (As := [.int (f (i + 1)), .int (f (i + 2))]) (st := []) hm dL_law_1615 zy_X7_isAscending zm_L_264 rfl rfl rfl rfl (Nat.le_of_ble_eq_true rfl) h3 (by decide) ?_
  refine z_istore_7 dL_law_1618 rfl (by decide) ?_
  refine l_tailB hk hb (by omega) dL_law_1620 dL_law_1621 dL_law_1624 dL_law_1626 dL_law_1631 dL_law_1633 dL_law_1636 dL_law_1637 dL_law_1638 dL_law_1639 dL_law_1641 dL_law_1644 dL_law_1645 dL_law_1648 dL_law_1649 dL_law_1650 dL_law_1655 (by decide) ?_
  exact l_next K
theorem l_case27 (hi : i + 6 ≤ n) (hn : n ≤ 3072) (hc : f i &&& 63 = 27) {k : Int32} {d2 mc2 ms2 : Nat} (h2 : d2 + 1 ≤ d) (hmc : mc2 ≤ 1) (hms : ms2 ≤ 6) (hW : zMW (n, f) yL_isDescending cL_isDescending 5 (some .int) d2 mc2 ms2 [.ref 0, .int (f (i + 1)), .int (f (i + 2)), .ref 115] (WL S X R T P TU q G TN fl) (some (.int k)) (WL S' X' R' T' P' TU' q' G' TN' fl')) {b : Bool} {d3 : Nat} (h3 : d3 + 1 ≤ d) (hm : zM (n, f) yX7_isDescending cX7_isDescending 3 (some .boolean) d3 0 0 [.ref 0, .int (f (i + 1)), .int (f (i + 2))] (mh M) (.inl (some (.int (zb b)))) (mh M')) (hk : M'.1 15 = k) (hb : k = 0 → fl' 0 = if b = true then 1 else 0)
    (K : Z (n, f) yL_law cL_law 9 (some .boolean) d mc ms 28 (some (.ref 1000202) :: some (.ref 0) :: some (.ref 117) :: some (.ref 115) :: some (.ref 116) :: some (.int (nI (i + 6))) :: [none, none, none]) [] (LH S' X' R' T' P' TU' q' G' TN' fl' fd n f M') r h') : Z (n, f) yL_law cL_law 9 (some .boolean) d (mc + 1) (ms + 6) 28 (some (.ref 1000202) :: some (.ref 0) :: some (.ref 117) :: some (.ref 115) :: some (.ref 116) :: some (.int (nI (i))) :: [none, none, none]) [] (LH S X R T P TU q G TN fl fd n f M) r h' := by
  refine l_head hi hn ?_
  rw [hc]
  refine z_tabIn (tgt := 1658) dL_law_45 (by decide) (by decide) rfl (by decide) ?_
  refine z_aload_1 dL_law_1658 ?_
  refine l_arg (j := 1) hi hn (by decide) (by decide) dL_law_1659 dL_law_1660 dL_law_1662 dL_law_1663 dL_law_1664 ?_
  refine l_arg (j := 2) hi hn (by decide) (by decide) dL_law_1665 dL_law_1666 dL_law_1668 dL_law_1669 dL_law_1670 ?_
  refine z_aload_3 dL_law_1671 ?_
  refine Z.more (mc := mc + mc2) (ms := ms + ms2) (by omega) (by omega) ?_
  refine l_wr (st := []) hW dL_law_1672 zy_L_isDescending zm_L_265 rfl (by decide) h2 (by decide) ?_
  refine z_istore_6 dL_law_1675 rfl (by decide) ?_
  refine z_aload_2 dL_law_1677 ?_
  refine l_arg (j := 1) hi hn (by decide) (by decide) dL_law_1678 dL_law_1679 dL_law_1681 dL_law_1682 dL_law_1683 ?_
  refine l_arg (j := 2) hi hn (by decide) (by decide) dL_law_1684 dL_law_1685 dL_law_1687 dL_law_1688 dL_law_1689 ?_
  refine l_m7 (As := [.int (f (i + 1)), .int (f (i + 2))]) (st := []) hm dL_law_1690 zy_X7_isDescending zm_L_267 rfl rfl rfl rfl (Nat.le_of_ble_eq_true rfl) h3 (by decide) ?_
  refine z_istore_7 dL_law_1693 rfl (by decide) ?_
  refine l_tailB hk hb (by omega) dL_law_1695 dL_law_1696 dL_law_1699 dL_law_1701 dL_law_1706 dL_law_1708 dL_law_1711 dL_law_1712 dL_law_1713 dL_law_1714 dL_law_1716 dL_law_1719 dL_law_1720 dL_law_1723 dL_law_1724 dL_law_1725 dL_law_1730 (by decide) ?_
  exact l_next K
theorem l_case28 (hi : i + 6 ≤ n) (hn : n ≤ 3072) (hc : f i &&& 63 = 28) {k : Int32} {d2 mc2 ms2 : Nat} (h2 : d2 + 1 ≤ d) (hmc : mc2 ≤ 1) (hms : ms2 ≤ 6) (hW : zMW (n, f) yL_steepestStep cL_steepestStep 5 (some .int) d2 mc2 ms2 [.ref 0, .int (f (i + 1)), .int (f (i + 2)), .ref 115] (WL S X R T P TU q G TN fl) (some (.int k)) (WL S' X' R' T' P' TU' q' G' TN' fl')) {b : Int32} {d3 : Nat} (h3 : d3 + 1 ≤ d) (hm : zM (n, f) yX7_steepestStep cX7_steepestStep 6 (some .int) d3 0 0 [.ref 0, .int (f (i + 1)), .int (f (i + 2))] (mh M) (.inl (some (.int b))) (mh M')) (hk : M'.1 15 = k) (hb : k = 0 → fl' 0 = b.toInt64)
    (K : Z (n, f) yL_law cL_law 9 (some .boolean) d mc ms 28 (some (.ref 1000202) :: some (.ref 0) :: some (.ref 117) :: some (.ref 115) :: some (.ref 116) :: some (.int (nI (i + 6))) :: [none, none, none]) [] (LH S' X' R' T' P' TU' q' G' TN' fl' fd n f M') r h') : Z (n, f) yL_law cL_law 9 (some .boolean) d (mc + 1) (ms + 6) 28 (some (.ref 1000202) :: some (.ref 0) :: some (.ref 117) :: some (.ref 115) :: some (.ref 116) :: some (.int (nI (i))) :: [none, none, none]) [] (LH S X R T P TU q G TN fl fd n f M) r h' := by
  refine l_head hi hn ?_
  rw [hc]
  refine z_tabIn (tgt := 1733) dL_law_45 (by decide) (by decide) rfl (by decide) ?_
  refine z_aload_1 dL_law_1733 ?_
  refine l_arg (j := 1) hi hn (by decide) (by decide) dL_law_1734 dL_law_1735 dL_law_1737 dL_law_1738 dL_law_1739 ?_
  refine l_arg (j := 2) hi hn (by decide) (by decide) dL_law_1740 dL_law_1741 dL_law_1743 dL_law_1744 dL_law_1745 ?_
  refine z_aload_3 dL_law_1746 ?_
  refine Z.more (mc := mc + mc2) (ms := ms + ms2) (by omega) (by omega) ?_
  refine l_wr (st := []) hW dL_law_1747 zy_L_steepestStep zm_L_268 rfl (by decide) h2 (by decide) ?_
  refine z_istore_6 dL_law_1750 rfl (by decide) ?_
  refine z_aload_2 dL_law_1752 ?_
  refine l_arg (j := 1) hi hn (by decide) (by decide) dL_law_1753 dL_law_1754 dL_law_1756 dL_law_1757 dL_law_1758 ?_
  refine l_arg (j := 2) hi hn (by decide) (by decide) dL_law_1759 dL_law_1760 dL_law_1762 dL_law_1763 dL_law_1764 ?_
  refine l_m7 (As := [.int (f (i + 1)), .int (f (i + 2))]) (st := []) hm dL_law_1765 zy_X7_steepestStep zm_L_270 rfl rfl rfl rfl (Nat.le_of_ble_eq_true rfl) h3 (by decide) ?_
  refine z_istore_7 dL_law_1768 rfl (by decide) ?_
  refine l_tailI hk hb (by omega) dL_law_1770 dL_law_1771 dL_law_1774 dL_law_1776 dL_law_1781 dL_law_1783 dL_law_1786 dL_law_1787 dL_law_1788 dL_law_1789 dL_law_1791 dL_law_1792 dL_law_1793 dL_law_1798 (by decide) ?_
  exact l_next K
theorem l_case29 (hi : i + 6 ≤ n) (hn : n ≤ 3072) (hc : f i &&& 63 = 29) {k : Int32} {d2 mc2 ms2 : Nat} (h2 : d2 + 1 ≤ d) (hmc : mc2 ≤ 1) (hms : ms2 ≤ 6) (hW : zMW (n, f) yL_mean cL_mean 5 (some .int) d2 mc2 ms2 [.ref 0, .int (f (i + 1)), .int (f (i + 2)), .ref 115] (WD S X R T P TU q G TN fd) (some (.int k)) (WD S' X' R' T' P' TU' q' G' TN' fd')) {b : UInt64} {d3 : Nat} (h3 : d3 + 1 ≤ d) (hm : zM (n, f) yX7_mean cX7_mean 3 (some .double) d3 0 0 [.ref 0, .int (f (i + 1)), .int (f (i + 2))] (mh M) (.inl (some (.double b))) (mh M')) (hk : M'.1 15 = k) (hb : k = 0 → Op.cmpValue (FP.dcmp (fd' 0) b) .l = 0)
    (K : Z (n, f) yL_law cL_law 9 (some .boolean) d mc ms 28 (some (.ref 1000202) :: some (.ref 0) :: some (.ref 117) :: some (.ref 115) :: some (.ref 116) :: some (.int (nI (i + 6))) :: [none, none, none]) [] (LH S' X' R' T' P' TU' q' G' TN' fl fd' n f M') r h') : Z (n, f) yL_law cL_law 9 (some .boolean) d (mc + 1) (ms + 6) 28 (some (.ref 1000202) :: some (.ref 0) :: some (.ref 117) :: some (.ref 115) :: some (.ref 116) :: some (.int (nI (i))) :: [none, none, none]) [] (LH S X R T P TU q G TN fl fd n f M) r h' := by
  refine l_head hi hn ?_
  rw [hc]
  refine z_tabIn (tgt := 1801) dL_law_45 (by decide) (by decide) rfl (by decide) ?_
  refine z_aload_1 dL_law_1801 ?_
  refine l_arg (j := 1) hi hn (by decide) (by decide) dL_law_1802 dL_law_1803 dL_law_1805 dL_law_1806 dL_law_1807 ?_
  refine l_arg (j := 2) hi hn (by decide) (by decide) dL_law_1808 dL_law_1809 dL_law_1811 dL_law_1812 dL_law_1813 ?_
  refine z_aload_4 dL_law_1814 ?_
  refine Z.more (mc := mc + mc2) (ms := ms + ms2) (by omega) (by omega) ?_
  refine l_wd (st := []) hW dL_law_1816 zy_L_mean zm_L_271 rfl rfl rfl (by decide) h2 (by decide) ?_
  refine z_istore_6 dL_law_1819 rfl (by decide) ?_
  refine z_aload_2 dL_law_1821 ?_
  refine l_arg (j := 1) hi hn (by decide) (by decide) dL_law_1822 dL_law_1823 dL_law_1825 dL_law_1826 dL_law_1827 ?_
  refine l_arg (j := 2) hi hn (by decide) (by decide) dL_law_1828 dL_law_1829 dL_law_1831 dL_law_1832 dL_law_1833 ?_
  refine l_m7 (As := [.int (f (i + 1)), .int (f (i + 2))]) (st := []) hm dL_law_1834 zy_X7_mean zm_L_274 rfl rfl rfl rfl (Nat.le_of_ble_eq_true rfl) h3 (by decide) ?_
  refine z_dstore_7 dL_law_1837 rfl (by decide) ?_
  refine l_tailD hk hb (by omega) dL_law_1839 dL_law_1840 dL_law_1843 dL_law_1845 dL_law_1850 dL_law_1852 dL_law_1855 dL_law_1857 dL_law_1858 dL_law_1859 dL_law_1861 dL_law_1862 dL_law_1887 (by decide) ?_
  exact l_next K
theorem l_case30 (hi : i + 6 ≤ n) (hn : n ≤ 3072) (hc : f i &&& 63 = 30) {k : Int32} {d2 mc2 ms2 : Nat} (h2 : d2 + 1 ≤ d) (hmc : mc2 ≤ 1) (hms : ms2 ≤ 6) (hW : zMW (n, f) yL_greatestShare cL_greatestShare 5 (some .int) d2 mc2 ms2 [.ref 0, .int (f (i + 1)), .int (f (i + 2)), .ref 115] (WD S X R T P TU q G TN fd) (some (.int k)) (WD S' X' R' T' P' TU' q' G' TN' fd')) {b : UInt32} {d3 : Nat} (h3 : d3 + 1 ≤ d) (hm : zM (n, f) yX7_greatestShare cX7_greatestShare 3 (some .float) d3 0 0 [.ref 0, .int (f (i + 1)), .int (f (i + 2))] (mh M) (.inl (some (.float b))) (mh M')) (hk : M'.1 15 = k) (hb : k = 0 → vf_n64 (FP.f2d b) ∧ Op.cmpValue (FP.dcmp (fd' 0) (FP.f2d b)) .l = 0)
    (K : Z (n, f) yL_law cL_law 9 (some .boolean) d mc ms 28 (some (.ref 1000202) :: some (.ref 0) :: some (.ref 117) :: some (.ref 115) :: some (.ref 116) :: some (.int (nI (i + 6))) :: [none, none, none]) [] (LH S' X' R' T' P' TU' q' G' TN' fl fd' n f M') r h') : Z (n, f) yL_law cL_law 9 (some .boolean) d (mc + 1) (ms + 6) 28 (some (.ref 1000202) :: some (.ref 0) :: some (.ref 117) :: some (.ref 115) :: some (.ref 116) :: some (.int (nI (i))) :: [none, none, none]) [] (LH S X R T P TU q G TN fl fd n f M) r h' := by
  refine l_head hi hn ?_
  rw [hc]
  refine z_tabIn (tgt := 1890) dL_law_45 (by decide) (by decide) rfl (by decide) ?_
  refine z_aload_1 dL_law_1890 ?_
  refine l_arg (j := 1) hi hn (by decide) (by decide) dL_law_1891 dL_law_1892 dL_law_1894 dL_law_1895 dL_law_1896 ?_
  refine l_arg (j := 2) hi hn (by decide) (by decide) dL_law_1897 dL_law_1898 dL_law_1900 dL_law_1901 dL_law_1902 ?_
  refine z_aload_4 dL_law_1903 ?_
  refine Z.more (mc := mc + mc2) (ms := ms + ms2) (by omega) (by omega) ?_
  refine l_wd (st := []) hW dL_law_1905 zy_L_greatestShare zm_L_275 rfl rfl rfl (by decide) h2 (by decide) ?_
  refine z_istore_6 dL_law_1908 rfl (by decide) ?_
  refine z_aload_2 dL_law_1910 ?_
  refine l_arg (j := 1) hi hn (by decide) (by decide) dL_law_1911 dL_law_1912 dL_law_1914 dL_law_1915 dL_law_1916 ?_
  refine l_arg (j := 2) hi hn (by decide) (by decide) dL_law_1917 dL_law_1918 dL_law_1920 dL_law_1921 dL_law_1922 ?_
  refine l_m7 (As := [.int (f (i + 1)), .int (f (i + 2))]) (st := []) hm dL_law_1923 zy_X7_greatestShare zm_L_277 rfl rfl rfl rfl (Nat.le_of_ble_eq_true rfl) h3 (by decide) ?_
  refine z_fstore_7 dL_law_1926 rfl (by decide) ?_
  refine l_tailF hk hb (by omega) dL_law_1928 dL_law_1929 dL_law_1932 dL_law_1934 dL_law_1939 dL_law_1941 dL_law_1944 dL_law_1946 dL_law_1947 dL_law_1948 dL_law_1950 dL_law_1951 dL_law_1952 dL_law_1977 (by decide) ?_
  exact l_next K
theorem l_case31 (hi : i + 6 ≤ n) (hn : n ≤ 3072) (hc : f i &&& 63 = 31) {k : Int32} {d2 mc2 ms2 : Nat} (h2 : d2 + 1 ≤ d) (hmc : mc2 ≤ 1) (hms : ms2 ≤ 6) (hW : zMW (n, f) yL_firstAtLeast cL_firstAtLeast 5 (some .int) d2 mc2 ms2 [.ref 0, .int (f (i + 1)), .int (f (i + 2)), .ref 115] (WL S X R T P TU q G TN fl) (some (.int k)) (WL S' X' R' T' P' TU' q' G' TN' fl')) {b : Int32} {d3 : Nat} (h3 : d3 + 1 ≤ d) (hm : zM (n, f) yX7_firstAtLeast cX7_firstAtLeast 4 (some .int) d3 0 0 [.ref 0, .int (f (i + 1)), .int (f (i + 2))] (mh M) (.inl (some (.int b))) (mh M')) (hk : M'.1 15 = k) (hb : k = 0 → fl' 0 = b.toInt64)
    (K : Z (n, f) yL_law cL_law 9 (some .boolean) d mc ms 28 (some (.ref 1000202) :: some (.ref 0) :: some (.ref 117) :: some (.ref 115) :: some (.ref 116) :: some (.int (nI (i + 6))) :: [none, none, none]) [] (LH S' X' R' T' P' TU' q' G' TN' fl' fd n f M') r h') : Z (n, f) yL_law cL_law 9 (some .boolean) d (mc + 1) (ms + 6) 28 (some (.ref 1000202) :: some (.ref 0) :: some (.ref 117) :: some (.ref 115) :: some (.ref 116) :: some (.int (nI (i))) :: [none, none, none]) [] (LH S X R T P TU q G TN fl fd n f M) r h' := by
  refine l_head hi hn ?_
  rw [hc]
  refine z_tabIn (tgt := 1980) dL_law_45 (by decide) (by decide) rfl (by decide) ?_
  refine z_aload_1 dL_law_1980 ?_
  refine l_arg (j := 1) hi hn (by decide) (by decide) dL_law_1981 dL_law_1982 dL_law_1984 dL_law_1985 dL_law_1986 ?_
  refine l_arg (j := 2) hi hn (by decide) (by decide) dL_law_1987 dL_law_1988 dL_law_1990 dL_law_1991 dL_law_1992 ?_
  refine z_aload_3 dL_law_1993 ?_
  refine Z.more (mc := mc + mc2) (ms := ms + ms2) (by omega) (by omega) ?_
  refine l_wr (st := []) hW dL_law_1994 zy_L_firstAtLeast zm_L_278 rfl (by decide) h2 (by decide) ?_
  refine z_istore_6 dL_law_1997 rfl (by decide) ?_
  refine z_aload_2 dL_law_1999 ?_
  refine l_arg (j := 1) hi hn (by decide) (by decide) dL_law_2000 dL_law_2001 dL_law_2003 dL_law_2004 dL_law_2005 ?_
  refine l_arg (j := 2) hi hn (by decide) (by decide) dL_law_2006 dL_law_2007 dL_law_2009 dL_law_2010 dL_law_2011 ?_
  refine l_m7 (As := [.int (f (i + 1)), .int (f (i + 2))]) (st := []) hm dL_law_2012 zy_X7_firstAtLeast zm_L_280 rfl rfl rfl rfl (Nat.le_of_ble_eq_true rfl) h3 (by decide) ?_
  refine z_istore_7 dL_law_2015 rfl (by decide) ?_
  refine l_tailI hk hb (by omega) dL_law_2017 dL_law_2018 dL_law_2021 dL_law_2023 dL_law_2028 dL_law_2030 dL_law_2033 dL_law_2034 dL_law_2035 dL_law_2036 dL_law_2038 dL_law_2039 dL_law_2040 dL_law_2045 (by decide) ?_
  exact l_next K
end LAWC
