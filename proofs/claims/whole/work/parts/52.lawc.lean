section LA
variable {l : Launch} {g : KG} {sc L i : Nat} {xs : Nat → Int32} {J : KT} {a aK aL aT b : Nat → Nat} {s : KS} {jc : CJ} {jm : MJ}
set_option maxHeartbeats 4000000 in
set_option maxRecDepth 100000 in
theorem lw_c28 (hJ : KLw l room_1 cL_law RL 4 g sc L xs J) (hL : L ≤ 3072) (hi : i + 6 ≤ L) (hs : kOk s) (k : ∀ (s2 : KS) (jc : CJ) (jm : MJ), kOk s2 → J (clsA g a aK aL aT s2 jc ++ modA g b s2 jm) [(0, .ref sc), (1, .ref (a 0)), (2, .ref (b 0)), (3, .int (nI i))] 1506 []) : J (clsA g a aK aL aT s jc ++ modA g b s jm) [(0, .ref sc), (1, .ref (a 0)), (2, .ref (b 0)), (3, .int (nI i))] 1086 [] := by
  have hK := hJ.ko
  refine k_aload_n hK dL_law_1086 1 rfl ?_
  refine l_cls hK (cp_wipe l g a aK aL aT jc s hs ) mv_X3_wipe ml_L_128 rfl ⟨rfl, rfl, Nat.le_of_ble_eq_true rfl, Nat.le_of_ble_eq_true rfl⟩ rfl rfl (by decide) dL_law_1087 (fun r jc2 hr => ?_)
  refine k_aload_n hK dL_law_1090 2 rfl ?_
  refine l_mod hK (mp_wipe l g b jm s hs ) mv_X4_wipe ml_L_132 rfl ⟨rfl, rfl, Nat.le_of_ble_eq_true rfl, Nat.le_of_ble_eq_true rfl⟩ rfl rfl (Nat.le_of_ble_eq_true rfl) dL_law_1091 (fun r2 jm2 hr2 => ?_)
  exact k_icmp_eq (tgt := 1506) hK dL_law_1094 (by decide) (fun _ => k _ _ _ (ok_wipe hs)) (fun h => absurd (hr.trans hr2.symm) h)
set_option maxHeartbeats 4000000 in
set_option maxRecDepth 100000 in
theorem lw_c29 (hJ : KLw l room_1 cL_law RL 4 g sc L xs J) (hL : L ≤ 3072) (hi : i + 6 ≤ L) (hs : kOk s) (k : ∀ (s2 : KS) (jc : CJ) (jm : MJ), kOk s2 → J (clsA g a aK aL aT s2 jc ++ modA g b s2 jm) [(0, .ref sc), (1, .ref (a 0)), (2, .ref (b 0)), (3, .int (nI i))] 1506 []) : J (clsA g a aK aL aT s jc ++ modA g b s jm) [(0, .ref sc), (1, .ref (a 0)), (2, .ref (b 0)), (3, .int (nI i))] 1099 [] := by
  have hK := hJ.ko
  refine k_aload_n hK dL_law_1099 1 rfl ?_
  refine l_cls hK (cp_hall l g a aK aL aT jc s hs ) mv_X3_hall ml_L_133 rfl ⟨rfl, rfl, Nat.le_of_ble_eq_true rfl, Nat.le_of_ble_eq_true rfl⟩ rfl rfl (by decide) dL_law_1100 (fun r jc2 hr => ?_)
  refine k_aload_n hK dL_law_1103 2 rfl ?_
  refine l_mod hK (mp_hall l g b jm s hs ) mv_X4_hall ml_L_136 rfl ⟨rfl, rfl, Nat.le_of_ble_eq_true rfl, Nat.le_of_ble_eq_true rfl⟩ rfl rfl (Nat.le_of_ble_eq_true rfl) dL_law_1104 (fun r2 jm2 hr2 => ?_)
  exact k_icmp_eq (tgt := 1506) hK dL_law_1107 (by decide) (fun _ => k _ _ _ (ok_hall hs)) (fun h => absurd (hr.trans hr2.symm) h)
set_option maxHeartbeats 4000000 in
set_option maxRecDepth 100000 in
theorem lw_c30 (hJ : KLw l room_1 cL_law RL 4 g sc L xs J) (hL : L ≤ 3072) (hi : i + 6 ≤ L) (hs : kOk s) (k : ∀ (s2 : KS) (jc : CJ) (jm : MJ), kOk s2 → J (clsA g a aK aL aT s2 jc ++ modA g b s2 jm) [(0, .ref sc), (1, .ref (a 0)), (2, .ref (b 0)), (3, .int (nI i))] 1506 []) : J (clsA g a aK aL aT s jc ++ modA g b s jm) [(0, .ref sc), (1, .ref (a 0)), (2, .ref (b 0)), (3, .int (nI i))] 1112 [] := by
  have hK := hJ.ko
  refine k_aload_n hK dL_law_1112 1 rfl ?_
  refine k_aload_n hK dL_law_1113 0 rfl ?_
  refine k_iload_n hK dL_law_1114 3 rfl ?_
  refine k_iconst (v := nI 1) hK dL_law_1115 (by decide) ?_
  refine n_iadd hK dL_law_1116 ?_
  refine l_sld hJ dL_law_1117 hL (by omega) ?_
  refine k_aload_n hK dL_law_1118 0 rfl ?_
  refine k_iload_n hK dL_law_1119 3 rfl ?_
  refine k_iconst (v := nI 2) hK dL_law_1120 (by decide) ?_
  refine n_iadd hK dL_law_1121 ?_
  refine l_sld hJ dL_law_1122 hL (by omega) ?_
  refine k_aload_n hK dL_law_1123 0 rfl ?_
  refine k_iload_n hK dL_law_1124 3 rfl ?_
  refine k_iconst (v := nI 3) hK dL_law_1125 (by decide) ?_
  refine n_iadd hK dL_law_1126 ?_
  refine l_sld hJ dL_law_1127 hL (by omega) ?_
  refine l_cls hK (cp_sheet l g a aK aL aT jc s hs (xs (i + 1)) (xs (i + 2)) (xs (i + 3))) mv_X3_sheet ml_L_137 rfl ⟨rfl, rfl, Nat.le_of_ble_eq_true rfl, Nat.le_of_ble_eq_true rfl⟩ rfl rfl (by decide) dL_law_1128 (fun r jc2 hr => ?_)
  refine k_aload_n hK dL_law_1131 2 rfl ?_
  refine k_aload_n hK dL_law_1132 0 rfl ?_
  refine k_iload_n hK dL_law_1133 3 rfl ?_
  refine k_iconst (v := nI 1) hK dL_law_1134 (by decide) ?_
  refine n_iadd hK dL_law_1135 ?_
  refine l_sld hJ dL_law_1136 hL (by omega) ?_
  refine k_aload_n hK dL_law_1137 0 rfl ?_
  refine k_iload_n hK dL_law_1138 3 rfl ?_
  refine k_iconst (v := nI 2) hK dL_law_1139 (by decide) ?_
  refine n_iadd hK dL_law_1140 ?_
  refine l_sld hJ dL_law_1141 hL (by omega) ?_
  refine k_aload_n hK dL_law_1142 0 rfl ?_
  refine k_iload_n hK dL_law_1143 3 rfl ?_
  refine k_iconst (v := nI 3) hK dL_law_1144 (by decide) ?_
  refine n_iadd hK dL_law_1145 ?_
  refine l_sld hJ dL_law_1146 hL (by omega) ?_
  refine l_mod hK (mp_sheet l g b jm s hs (xs (i + 1)) (xs (i + 2)) (xs (i + 3))) mv_X4_sheet ml_L_140 rfl ⟨rfl, rfl, Nat.le_of_ble_eq_true rfl, Nat.le_of_ble_eq_true rfl⟩ rfl rfl (Nat.le_of_ble_eq_true rfl) dL_law_1147 (fun r2 jm2 hr2 => ?_)
  exact k_icmp_eq (tgt := 1506) hK dL_law_1150 (by decide) (fun _ => k _ _ _ (ok_sheet hs (xs (i + 1)) (xs (i + 2)) (xs (i + 3)))) (fun h => absurd (hr.trans hr2.symm) h)
set_option maxHeartbeats 4000000 in
set_option maxRecDepth 100000 in
theorem lw_c31 (hJ : KLw l room_1 cL_law RL 4 g sc L xs J) (hL : L ≤ 3072) (hi : i + 6 ≤ L) (hs : kOk s) (k : ∀ (s2 : KS) (jc : CJ) (jm : MJ), kOk s2 → J (clsA g a aK aL aT s2 jc ++ modA g b s2 jm) [(0, .ref sc), (1, .ref (a 0)), (2, .ref (b 0)), (3, .int (nI i))] 1506 []) : J (clsA g a aK aL aT s jc ++ modA g b s jm) [(0, .ref sc), (1, .ref (a 0)), (2, .ref (b 0)), (3, .int (nI i))] 1155 [] := by
  have hK := hJ.ko
  refine k_aload_n hK dL_law_1155 1 rfl ?_
  refine k_aload_n hK dL_law_1156 0 rfl ?_
  refine k_iload_n hK dL_law_1157 3 rfl ?_
  refine k_iconst (v := nI 1) hK dL_law_1158 (by decide) ?_
  refine n_iadd hK dL_law_1159 ?_
  refine l_sld hJ dL_law_1160 hL (by omega) ?_
  refine k_aload_n hK dL_law_1161 0 rfl ?_
  refine k_iload_n hK dL_law_1162 3 rfl ?_
  refine k_iconst (v := nI 2) hK dL_law_1163 (by decide) ?_
  refine n_iadd hK dL_law_1164 ?_
  refine l_sld hJ dL_law_1165 hL (by omega) ?_
  refine k_aload_n hK dL_law_1166 0 rfl ?_
  refine k_iload_n hK dL_law_1167 3 rfl ?_
  refine k_iconst (v := nI 3) hK dL_law_1168 (by decide) ?_
  refine n_iadd hK dL_law_1169 ?_
  refine l_sld hJ dL_law_1170 hL (by omega) ?_
  refine k_i2l hK dL_law_1171 rfl ?_
  refine k_bipush (v := nI 32) hK dL_law_1172 (by decide) ?_
  refine k_lshl hK dL_law_1174 rfl ?_
  refine k_aload_n hK dL_law_1175 0 rfl ?_
  refine k_iload_n hK dL_law_1176 3 rfl ?_
  refine k_iconst (v := nI 4) hK dL_law_1177 (by decide) ?_
  refine n_iadd hK dL_law_1178 ?_
  refine l_sld hJ dL_law_1179 hL (by omega) ?_
  refine k_i2l hK dL_law_1180 rfl ?_
  refine k_ldc2 hK dL_law_1181 cw_L_141 ?_
  refine k_land hK dL_law_1184 ?_
  refine k_lor hK dL_law_1185 ?_
  refine l_cls hK (cp_write l g a aK aL aT jc s hs (xs (i + 1)) (xs (i + 2)) (((xs (i + 3)).toInt64 <<< ((nI 32).toInt64 &&& 63)) ||| ((xs (i + 4)).toInt64 &&& 4294967295))) mv_X3_write ml_L_143 rfl ⟨rfl, rfl, Nat.le_of_ble_eq_true rfl, Nat.le_of_ble_eq_true rfl⟩ rfl rfl (by decide) dL_law_1186 (fun r jc2 hr => ?_)
  refine k_aload_n hK dL_law_1189 2 rfl ?_
  refine k_aload_n hK dL_law_1190 0 rfl ?_
  refine k_iload_n hK dL_law_1191 3 rfl ?_
  refine k_iconst (v := nI 1) hK dL_law_1192 (by decide) ?_
  refine n_iadd hK dL_law_1193 ?_
  refine l_sld hJ dL_law_1194 hL (by omega) ?_
  refine k_aload_n hK dL_law_1195 0 rfl ?_
  refine k_iload_n hK dL_law_1196 3 rfl ?_
  refine k_iconst (v := nI 2) hK dL_law_1197 (by decide) ?_
  refine n_iadd hK dL_law_1198 ?_
  refine l_sld hJ dL_law_1199 hL (by omega) ?_
  refine k_aload_n hK dL_law_1200 0 rfl ?_
  refine k_iload_n hK dL_law_1201 3 rfl ?_
  refine k_iconst (v := nI 3) hK dL_law_1202 (by decide) ?_
  refine n_iadd hK dL_law_1203 ?_
  refine l_sld hJ dL_law_1204 hL (by omega) ?_
  refine k_i2l hK dL_law_1205 rfl ?_
  refine k_bipush (v := nI 32) hK dL_law_1206 (by decide) ?_
  refine k_lshl hK dL_law_1208 rfl ?_
  refine k_aload_n hK dL_law_1209 0 rfl ?_
  refine k_iload_n hK dL_law_1210 3 rfl ?_
  refine k_iconst (v := nI 4) hK dL_law_1211 (by decide) ?_
  refine n_iadd hK dL_law_1212 ?_
  refine l_sld hJ dL_law_1213 hL (by omega) ?_
  refine k_i2l hK dL_law_1214 rfl ?_
  refine k_ldc2 hK dL_law_1215 cw_L_141 ?_
  refine k_land hK dL_law_1218 ?_
  refine k_lor hK dL_law_1219 ?_
  refine l_mod hK (mp_write l g b jm s hs (xs (i + 1)) (xs (i + 2)) (((xs (i + 3)).toInt64 <<< ((nI 32).toInt64 &&& 63)) ||| ((xs (i + 4)).toInt64 &&& 4294967295))) mv_X4_write ml_L_147 rfl ⟨rfl, rfl, Nat.le_of_ble_eq_true rfl, Nat.le_of_ble_eq_true rfl⟩ rfl rfl (Nat.le_of_ble_eq_true rfl) dL_law_1220 (fun r2 jm2 hr2 => ?_)
  refine k_lcmp hK dL_law_1223 ?_
  exact k_if_eq (tgt := 1506) hK dL_law_1224 (by decide) (fun _ => k _ _ _ (ok_write hs (xs (i + 1)) (xs (i + 2)) (((xs (i + 3)).toInt64 <<< ((nI 32).toInt64 &&& 63)) ||| ((xs (i + 4)).toInt64 &&& 4294967295)))) (fun h => absurd (by rw [hr, hr2]; exact lg_cmp_s _) h)
set_option maxHeartbeats 4000000 in
set_option maxRecDepth 100000 in
theorem lw_c32 (hJ : KLw l room_1 cL_law RL 4 g sc L xs J) (hL : L ≤ 3072) (hi : i + 6 ≤ L) (hs : kOk s) (k : ∀ (s2 : KS) (jc : CJ) (jm : MJ), kOk s2 → J (clsA g a aK aL aT s2 jc ++ modA g b s2 jm) [(0, .ref sc), (1, .ref (a 0)), (2, .ref (b 0)), (3, .int (nI i))] 1506 []) : J (clsA g a aK aL aT s jc ++ modA g b s jm) [(0, .ref sc), (1, .ref (a 0)), (2, .ref (b 0)), (3, .int (nI i))] 1229 [] := by
  have hK := hJ.ko
  refine k_aload_n hK dL_law_1229 1 rfl ?_
  refine k_aload_n hK dL_law_1230 0 rfl ?_
  refine k_iload_n hK dL_law_1231 3 rfl ?_
  refine k_iconst (v := nI 1) hK dL_law_1232 (by decide) ?_
  refine n_iadd hK dL_law_1233 ?_
  refine l_sld hJ dL_law_1234 hL (by omega) ?_
  refine k_aload_n hK dL_law_1235 0 rfl ?_
  refine k_iload_n hK dL_law_1236 3 rfl ?_
  refine k_iconst (v := nI 2) hK dL_law_1237 (by decide) ?_
  refine n_iadd hK dL_law_1238 ?_
  refine l_sld hJ dL_law_1239 hL (by omega) ?_
  refine k_aload_n hK dL_law_1240 0 rfl ?_
  refine k_iload_n hK dL_law_1241 3 rfl ?_
  refine k_iconst (v := nI 3) hK dL_law_1242 (by decide) ?_
  refine n_iadd hK dL_law_1243 ?_
  refine l_sld hJ dL_law_1244 hL (by omega) ?_
  refine k_aload_n hK dL_law_1245 0 rfl ?_
  refine k_iload_n hK dL_law_1246 3 rfl ?_
  refine k_iconst (v := nI 4) hK dL_law_1247 (by decide) ?_
  refine n_iadd hK dL_law_1248 ?_
  refine l_sld hJ dL_law_1249 hL (by omega) ?_
  refine k_aload_n hK dL_law_1250 0 rfl ?_
  refine k_iload_n hK dL_law_1251 3 rfl ?_
  refine k_iconst (v := nI 5) hK dL_law_1252 (by decide) ?_
  refine n_iadd hK dL_law_1253 ?_
  refine l_sld hJ dL_law_1254 hL (by omega) ?_
  refine l_cls hK (cp_copy l g a aK aL aT jc s hs (xs (i + 1)) (xs (i + 2)) (xs (i + 3)) (xs (i + 4)) (xs (i + 5))) mv_X3_copy ml_L_148 rfl ⟨rfl, rfl, Nat.le_of_ble_eq_true rfl, Nat.le_of_ble_eq_true rfl⟩ rfl rfl (by decide) dL_law_1255 (fun r jc2 hr => ?_)
  refine k_aload_n hK dL_law_1258 2 rfl ?_
  refine k_aload_n hK dL_law_1259 0 rfl ?_
  refine k_iload_n hK dL_law_1260 3 rfl ?_
  refine k_iconst (v := nI 1) hK dL_law_1261 (by decide) ?_
  refine n_iadd hK dL_law_1262 ?_
  refine l_sld hJ dL_law_1263 hL (by omega) ?_
  refine k_aload_n hK dL_law_1264 0 rfl ?_
  refine k_iload_n hK dL_law_1265 3 rfl ?_
  refine k_iconst (v := nI 2) hK dL_law_1266 (by decide) ?_
  refine n_iadd hK dL_law_1267 ?_
  refine l_sld hJ dL_law_1268 hL (by omega) ?_
  refine k_aload_n hK dL_law_1269 0 rfl ?_
  refine k_iload_n hK dL_law_1270 3 rfl ?_
  refine k_iconst (v := nI 3) hK dL_law_1271 (by decide) ?_
  refine n_iadd hK dL_law_1272 ?_
  refine l_sld hJ dL_law_1273 hL (by omega) ?_
  refine k_aload_n hK dL_law_1274 0 rfl ?_
  refine k_iload_n hK dL_law_1275 3 rfl ?_
  refine k_iconst (v := nI 4) hK dL_law_1276 (by decide) ?_
  refine n_iadd hK dL_law_1277 ?_
  refine l_sld hJ dL_law_1278 hL (by omega) ?_
  refine k_aload_n hK dL_law_1279 0 rfl ?_
  refine k_iload_n hK dL_law_1280 3 rfl ?_
  refine k_iconst (v := nI 5) hK dL_law_1281 (by decide) ?_
  refine n_iadd hK dL_law_1282 ?_
  refine l_sld hJ dL_law_1283 hL (by omega) ?_
  refine l_mod hK (mp_copy l g b jm s hs (xs (i + 1)) (xs (i + 2)) (xs (i + 3)) (xs (i + 4)) (xs (i + 5))) mv_X4_copy ml_L_152 rfl ⟨rfl, rfl, Nat.le_of_ble_eq_true rfl, Nat.le_of_ble_eq_true rfl⟩ rfl rfl (Nat.le_of_ble_eq_true rfl) dL_law_1284 (fun r2 jm2 hr2 => ?_)
  exact k_icmp_eq (tgt := 1506) hK dL_law_1287 (by decide) (fun _ => k _ _ _ (ok_copy hs (xs (i + 1)) (xs (i + 2)) (xs (i + 3)) (xs (i + 4)) (xs (i + 5)))) (fun h => absurd (hr.trans hr2.symm) h)
set_option maxHeartbeats 4000000 in
set_option maxRecDepth 100000 in
theorem lw_c33 (hJ : KLw l room_1 cL_law RL 4 g sc L xs J) (hL : L ≤ 3072) (hi : i + 6 ≤ L) (hs : kOk s) (k : ∀ (s2 : KS) (jc : CJ) (jm : MJ), kOk s2 → J (clsA g a aK aL aT s2 jc ++ modA g b s2 jm) [(0, .ref sc), (1, .ref (a 0)), (2, .ref (b 0)), (3, .int (nI i))] 1506 []) : J (clsA g a aK aL aT s jc ++ modA g b s jm) [(0, .ref sc), (1, .ref (a 0)), (2, .ref (b 0)), (3, .int (nI i))] 1292 [] := by
  have hK := hJ.ko
  refine k_aload_n hK dL_law_1292 1 rfl ?_
  refine k_aload_n hK dL_law_1293 0 rfl ?_
  refine k_iload_n hK dL_law_1294 3 rfl ?_
  refine k_iconst (v := nI 1) hK dL_law_1295 (by decide) ?_
  refine n_iadd hK dL_law_1296 ?_
  refine l_sld hJ dL_law_1297 hL (by omega) ?_
  refine l_cls hK (cp_lays l g a aK aL aT jc s hs (xs (i + 1))) mv_X3_lays ml_L_153 rfl ⟨rfl, rfl, Nat.le_of_ble_eq_true rfl, Nat.le_of_ble_eq_true rfl⟩ rfl rfl (by decide) dL_law_1298 (fun r jc2 hr => ?_)
  refine k_aload_n hK dL_law_1301 2 rfl ?_
  refine k_aload_n hK dL_law_1302 0 rfl ?_
  refine k_iload_n hK dL_law_1303 3 rfl ?_
  refine k_iconst (v := nI 1) hK dL_law_1304 (by decide) ?_
  refine n_iadd hK dL_law_1305 ?_
  refine l_sld hJ dL_law_1306 hL (by omega) ?_
  refine l_mod hK (mp_lays l g b jm s hs (xs (i + 1))) mv_X4_lays ml_L_156 rfl ⟨rfl, rfl, Nat.le_of_ble_eq_true rfl, Nat.le_of_ble_eq_true rfl⟩ rfl rfl (Nat.le_of_ble_eq_true rfl) dL_law_1307 (fun r2 jm2 hr2 => ?_)
  exact k_icmp_eq (tgt := 1506) hK dL_law_1310 (by decide) (fun _ => k _ _ _ (ok_lays hs (xs (i + 1)))) (fun h => absurd (hr.trans hr2.symm) h)
set_option maxHeartbeats 4000000 in
set_option maxRecDepth 100000 in
theorem lw_c34 (hJ : KLw l room_1 cL_law RL 4 g sc L xs J) (hL : L ≤ 3072) (hi : i + 6 ≤ L) (hs : kOk s) (k : ∀ (s2 : KS) (jc : CJ) (jm : MJ), kOk s2 → J (clsA g a aK aL aT s2 jc ++ modA g b s2 jm) [(0, .ref sc), (1, .ref (a 0)), (2, .ref (b 0)), (3, .int (nI i))] 1506 []) : J (clsA g a aK aL aT s jc ++ modA g b s jm) [(0, .ref sc), (1, .ref (a 0)), (2, .ref (b 0)), (3, .int (nI i))] 1315 [] := by
  have hK := hJ.ko
  refine k_aload_n hK dL_law_1315 1 rfl ?_
  refine k_aload_n hK dL_law_1316 0 rfl ?_
  refine k_iload_n hK dL_law_1317 3 rfl ?_
  refine k_iconst (v := nI 1) hK dL_law_1318 (by decide) ?_
  refine n_iadd hK dL_law_1319 ?_
  refine l_sld hJ dL_law_1320 hL (by omega) ?_
  refine k_aload_n hK dL_law_1321 0 rfl ?_
  refine k_iload_n hK dL_law_1322 3 rfl ?_
  refine k_iconst (v := nI 2) hK dL_law_1323 (by decide) ?_
  refine n_iadd hK dL_law_1324 ?_
  refine l_sld hJ dL_law_1325 hL (by omega) ?_
  refine k_aload_n hK dL_law_1326 0 rfl ?_
  refine k_iload_n hK dL_law_1327 3 rfl ?_
  refine k_iconst (v := nI 3) hK dL_law_1328 (by decide) ?_
  refine n_iadd hK dL_law_1329 ?_
  refine l_sld hJ dL_law_1330 hL (by omega) ?_
  refine k_aload_n hK dL_law_1331 0 rfl ?_
  refine k_iload_n hK dL_law_1332 3 rfl ?_
  refine k_iconst (v := nI 4) hK dL_law_1333 (by decide) ?_
  refine n_iadd hK dL_law_1334 ?_
  refine l_sld hJ dL_law_1335 hL (by omega) ?_
  refine l_cls hK (cp_book l g a aK aL aT jc s hs (xs (i + 1)) (xs (i + 2)) (xs (i + 3)) (xs (i + 4))) mv_X3_book ml_L_157 rfl ⟨rfl, rfl, Nat.le_of_ble_eq_true rfl, Nat.le_of_ble_eq_true rfl⟩ rfl rfl (by decide) dL_law_1336 (fun r jc2 hr => ?_)
  refine k_aload_n hK dL_law_1339 2 rfl ?_
  refine k_aload_n hK dL_law_1340 0 rfl ?_
  refine k_iload_n hK dL_law_1341 3 rfl ?_
  refine k_iconst (v := nI 1) hK dL_law_1342 (by decide) ?_
  refine n_iadd hK dL_law_1343 ?_
  refine l_sld hJ dL_law_1344 hL (by omega) ?_
  refine k_aload_n hK dL_law_1345 0 rfl ?_
  refine k_iload_n hK dL_law_1346 3 rfl ?_
  refine k_iconst (v := nI 2) hK dL_law_1347 (by decide) ?_
  refine n_iadd hK dL_law_1348 ?_
  refine l_sld hJ dL_law_1349 hL (by omega) ?_
  refine k_aload_n hK dL_law_1350 0 rfl ?_
  refine k_iload_n hK dL_law_1351 3 rfl ?_
  refine k_iconst (v := nI 3) hK dL_law_1352 (by decide) ?_
  refine n_iadd hK dL_law_1353 ?_
  refine l_sld hJ dL_law_1354 hL (by omega) ?_
  refine k_aload_n hK dL_law_1355 0 rfl ?_
  refine k_iload_n hK dL_law_1356 3 rfl ?_
  refine k_iconst (v := nI 4) hK dL_law_1357 (by decide) ?_
  refine n_iadd hK dL_law_1358 ?_
  refine l_sld hJ dL_law_1359 hL (by omega) ?_
  refine l_mod hK (mp_book l g b jm s hs (xs (i + 1)) (xs (i + 2)) (xs (i + 3)) (xs (i + 4))) mv_X4_book ml_L_161 rfl ⟨rfl, rfl, Nat.le_of_ble_eq_true rfl, Nat.le_of_ble_eq_true rfl⟩ rfl rfl (Nat.le_of_ble_eq_true rfl) dL_law_1360 (fun r2 jm2 hr2 => ?_)
  exact k_icmp_eq (tgt := 1506) hK dL_law_1363 (by decide) (fun _ => k _ _ _ (ok_book hs (xs (i + 1)) (xs (i + 2)) (xs (i + 3)) (xs (i + 4)))) (fun h => absurd (hr.trans hr2.symm) h)
set_option maxHeartbeats 4000000 in
set_option maxRecDepth 100000 in
theorem lw_c35 (hJ : KLw l room_1 cL_law RL 4 g sc L xs J) (hL : L ≤ 3072) (hi : i + 6 ≤ L) (hs : kOk s) (k : ∀ (s2 : KS) (jc : CJ) (jm : MJ), kOk s2 → J (clsA g a aK aL aT s2 jc ++ modA g b s2 jm) [(0, .ref sc), (1, .ref (a 0)), (2, .ref (b 0)), (3, .int (nI i))] 1506 []) : J (clsA g a aK aL aT s jc ++ modA g b s jm) [(0, .ref sc), (1, .ref (a 0)), (2, .ref (b 0)), (3, .int (nI i))] 1368 [] := by
  have hK := hJ.ko
  refine k_aload_n hK dL_law_1368 1 rfl ?_
  refine k_aload_n hK dL_law_1369 0 rfl ?_
  refine k_iload_n hK dL_law_1370 3 rfl ?_
  refine k_iconst (v := nI 1) hK dL_law_1371 (by decide) ?_
  refine n_iadd hK dL_law_1372 ?_
  refine l_sld hJ dL_law_1373 hL (by omega) ?_
  refine k_aload_n hK dL_law_1374 0 rfl ?_
  refine k_iload_n hK dL_law_1375 3 rfl ?_
  refine k_iconst (v := nI 2) hK dL_law_1376 (by decide) ?_
  refine n_iadd hK dL_law_1377 ?_
  refine l_sld hJ dL_law_1378 hL (by omega) ?_
  refine k_aload_n hK dL_law_1379 0 rfl ?_
  refine k_iload_n hK dL_law_1380 3 rfl ?_
  refine k_iconst (v := nI 3) hK dL_law_1381 (by decide) ?_
  refine n_iadd hK dL_law_1382 ?_
  refine l_sld hJ dL_law_1383 hL (by omega) ?_
  refine k_aload_n hK dL_law_1384 0 rfl ?_
  refine k_iload_n hK dL_law_1385 3 rfl ?_
  refine k_iconst (v := nI 4) hK dL_law_1386 (by decide) ?_
  refine n_iadd hK dL_law_1387 ?_
  refine l_sld hJ dL_law_1388 hL (by omega) ?_
  refine l_cls hK (cp_read l g a aK aL aT jc s hs (xs (i + 1)) (xs (i + 2)) (xs (i + 3)) (xs (i + 4))) mv_X3_read ml_L_162 rfl ⟨rfl, rfl, Nat.le_of_ble_eq_true rfl, Nat.le_of_ble_eq_true rfl⟩ rfl rfl (by decide) dL_law_1389 (fun r jc2 hr => ?_)
  refine k_aload_n hK dL_law_1392 2 rfl ?_
  refine k_aload_n hK dL_law_1393 0 rfl ?_
  refine k_iload_n hK dL_law_1394 3 rfl ?_
  refine k_iconst (v := nI 1) hK dL_law_1395 (by decide) ?_
  refine n_iadd hK dL_law_1396 ?_
  refine l_sld hJ dL_law_1397 hL (by omega) ?_
  refine k_aload_n hK dL_law_1398 0 rfl ?_
  refine k_iload_n hK dL_law_1399 3 rfl ?_
  refine k_iconst (v := nI 2) hK dL_law_1400 (by decide) ?_
  refine n_iadd hK dL_law_1401 ?_
  refine l_sld hJ dL_law_1402 hL (by omega) ?_
  refine k_aload_n hK dL_law_1403 0 rfl ?_
  refine k_iload_n hK dL_law_1404 3 rfl ?_
  refine k_iconst (v := nI 3) hK dL_law_1405 (by decide) ?_
  refine n_iadd hK dL_law_1406 ?_
  refine l_sld hJ dL_law_1407 hL (by omega) ?_
  refine k_aload_n hK dL_law_1408 0 rfl ?_
  refine k_iload_n hK dL_law_1409 3 rfl ?_
  refine k_iconst (v := nI 4) hK dL_law_1410 (by decide) ?_
  refine n_iadd hK dL_law_1411 ?_
  refine l_sld hJ dL_law_1412 hL (by omega) ?_
  refine l_mod hK (mp_read l g b jm s hs (xs (i + 1)) (xs (i + 2)) (xs (i + 3)) (xs (i + 4))) mv_X4_read ml_L_165 rfl ⟨rfl, rfl, Nat.le_of_ble_eq_true rfl, Nat.le_of_ble_eq_true rfl⟩ rfl rfl (Nat.le_of_ble_eq_true rfl) dL_law_1413 (fun r2 jm2 hr2 => ?_)
  exact k_icmp_eq (tgt := 1506) hK dL_law_1416 (by decide) (fun _ => k _ _ _ (ok_read hs (xs (i + 1)) (xs (i + 2)) (xs (i + 3)) (xs (i + 4)))) (fun h => absurd (hr.trans hr2.symm) h)
set_option maxHeartbeats 4000000 in
set_option maxRecDepth 100000 in
theorem lw_c36 (hJ : KLw l room_1 cL_law RL 4 g sc L xs J) (hL : L ≤ 3072) (hi : i + 6 ≤ L) (hs : kOk s) (k : ∀ (s2 : KS) (jc : CJ) (jm : MJ), kOk s2 → J (clsA g a aK aL aT s2 jc ++ modA g b s2 jm) [(0, .ref sc), (1, .ref (a 0)), (2, .ref (b 0)), (3, .int (nI i))] 1506 []) : J (clsA g a aK aL aT s jc ++ modA g b s jm) [(0, .ref sc), (1, .ref (a 0)), (2, .ref (b 0)), (3, .int (nI i))] 1421 [] := by
  have hK := hJ.ko
  refine k_aload_n hK dL_law_1421 1 rfl ?_
  refine l_cls hK (cp_image l g a aK aL aT jc s hs ) mv_X3_image ml_L_166 rfl ⟨rfl, rfl, Nat.le_of_ble_eq_true rfl, Nat.le_of_ble_eq_true rfl⟩ rfl rfl (by decide) dL_law_1422 (fun r jc2 hr => ?_)
  refine k_aload_n hK dL_law_1425 2 rfl ?_
  refine l_mod hK (mp_image l g b jm s hs ) mv_X4_image ml_L_169 rfl ⟨rfl, rfl, Nat.le_of_ble_eq_true rfl, Nat.le_of_ble_eq_true rfl⟩ rfl rfl (Nat.le_of_ble_eq_true rfl) dL_law_1426 (fun r2 jm2 hr2 => ?_)
  exact k_icmp_eq (tgt := 1506) hK dL_law_1429 (by decide) (fun _ => k _ _ _ (ok_image hs)) (fun h => absurd (hr.trans hr2.symm) h)
set_option maxHeartbeats 4000000 in
set_option maxRecDepth 100000 in
theorem lw_c37 (hJ : KLw l room_1 cL_law RL 4 g sc L xs J) (hL : L ≤ 3072) (hi : i + 6 ≤ L) (hs : kOk s) (k : ∀ (s2 : KS) (jc : CJ) (jm : MJ), kOk s2 → J (clsA g a aK aL aT s2 jc ++ modA g b s2 jm) [(0, .ref sc), (1, .ref (a 0)), (2, .ref (b 0)), (3, .int (nI i))] 1506 []) : J (clsA g a aK aL aT s jc ++ modA g b s jm) [(0, .ref sc), (1, .ref (a 0)), (2, .ref (b 0)), (3, .int (nI i))] 1434 [] := by
  have hK := hJ.ko
  refine k_aload_n hK dL_law_1434 1 rfl ?_
  refine l_cls hK (cp_undo l g a aK aL aT jc s hs ) mv_X3_undo ml_L_170 rfl ⟨rfl, rfl, Nat.le_of_ble_eq_true rfl, Nat.le_of_ble_eq_true rfl⟩ rfl rfl (by decide) dL_law_1435 (fun r jc2 hr => ?_)
  refine k_aload_n hK dL_law_1438 2 rfl ?_
  refine l_mod hK (mp_undo l g b jm s hs ) mv_X4_undo ml_L_173 rfl ⟨rfl, rfl, Nat.le_of_ble_eq_true rfl, Nat.le_of_ble_eq_true rfl⟩ rfl rfl (Nat.le_of_ble_eq_true rfl) dL_law_1439 (fun r2 jm2 hr2 => ?_)
  exact k_icmp_eq (tgt := 1506) hK dL_law_1442 (by decide) (fun _ => k _ _ _ (ok_undo hs)) (fun h => absurd (hr.trans hr2.symm) h)
set_option maxHeartbeats 4000000 in
set_option maxRecDepth 100000 in
theorem lw_c38 (hJ : KLw l room_1 cL_law RL 4 g sc L xs J) (hL : L ≤ 3072) (hi : i + 6 ≤ L) (hs : kOk s) (k : ∀ (s2 : KS) (jc : CJ) (jm : MJ), kOk s2 → J (clsA g a aK aL aT s2 jc ++ modA g b s2 jm) [(0, .ref sc), (1, .ref (a 0)), (2, .ref (b 0)), (3, .int (nI i))] 1506 []) : J (clsA g a aK aL aT s jc ++ modA g b s jm) [(0, .ref sc), (1, .ref (a 0)), (2, .ref (b 0)), (3, .int (nI i))] 1447 [] := by
  have hK := hJ.ko
  refine k_aload_n hK dL_law_1447 1 rfl ?_
  refine l_cls hK (cp_tear l g a aK aL aT jc s hs ) mv_X3_tear ml_L_174 rfl ⟨rfl, rfl, Nat.le_of_ble_eq_true rfl, Nat.le_of_ble_eq_true rfl⟩ rfl rfl (by decide) dL_law_1448 (fun r jc2 hr => ?_)
  refine k_aload_n hK dL_law_1451 2 rfl ?_
  refine l_mod hK (mp_tear l g b jm s hs ) mv_X4_tear ml_L_177 rfl ⟨rfl, rfl, Nat.le_of_ble_eq_true rfl, Nat.le_of_ble_eq_true rfl⟩ rfl rfl (Nat.le_of_ble_eq_true rfl) dL_law_1452 (fun r2 jm2 hr2 => ?_)
  exact k_icmp_eq (tgt := 1506) hK dL_law_1455 (by decide) (fun _ => k _ _ _ (ok_tear hs)) (fun h => absurd (hr.trans hr2.symm) h)
set_option maxHeartbeats 4000000 in
set_option maxRecDepth 100000 in
theorem lw_c39 (hJ : KLw l room_1 cL_law RL 4 g sc L xs J) (hL : L ≤ 3072) (hi : i + 6 ≤ L) (hs : kOk s) (k : ∀ (s2 : KS) (jc : CJ) (jm : MJ), kOk s2 → J (clsA g a aK aL aT s2 jc ++ modA g b s2 jm) [(0, .ref sc), (1, .ref (a 0)), (2, .ref (b 0)), (3, .int (nI i))] 1506 []) : J (clsA g a aK aL aT s jc ++ modA g b s jm) [(0, .ref sc), (1, .ref (a 0)), (2, .ref (b 0)), (3, .int (nI i))] 1460 [] := by
  have hK := hJ.ko
  refine k_aload_n hK dL_law_1460 1 rfl ?_
  refine k_aload_n hK dL_law_1461 0 rfl ?_
  refine k_iload_n hK dL_law_1462 3 rfl ?_
  refine k_iconst (v := nI 1) hK dL_law_1463 (by decide) ?_
  refine n_iadd hK dL_law_1464 ?_
  refine l_sld hJ dL_law_1465 hL (by omega) ?_
  refine l_cls hK (cp_count l g a aK aL aT jc s hs (xs (i + 1))) mv_X3_count ml_L_178 rfl ⟨rfl, rfl, Nat.le_of_ble_eq_true rfl, Nat.le_of_ble_eq_true rfl⟩ rfl rfl (by decide) dL_law_1466 (fun r jc2 hr => ?_)
  refine k_aload_n hK dL_law_1469 2 rfl ?_
  refine k_aload_n hK dL_law_1470 0 rfl ?_
  refine k_iload_n hK dL_law_1471 3 rfl ?_
  refine k_iconst (v := nI 1) hK dL_law_1472 (by decide) ?_
  refine n_iadd hK dL_law_1473 ?_
  refine l_sld hJ dL_law_1474 hL (by omega) ?_
  refine l_mod hK (mp_count l g b jm s hs (xs (i + 1))) mv_X4_count ml_L_181 rfl ⟨rfl, rfl, Nat.le_of_ble_eq_true rfl, Nat.le_of_ble_eq_true rfl⟩ rfl rfl (Nat.le_of_ble_eq_true rfl) dL_law_1475 (fun r2 jm2 hr2 => ?_)
  exact k_icmp_eq (tgt := 1506) hK dL_law_1478 (by decide) (fun _ => k _ _ _ (ok_count hs (xs (i + 1)))) (fun h => absurd (hr.trans hr2.symm) h)
set_option maxHeartbeats 4000000 in
set_option maxRecDepth 100000 in
theorem lw_c40 (hJ : KLw l room_1 cL_law RL 4 g sc L xs J) (hL : L ≤ 3072) (hi : i + 6 ≤ L) (hs : kOk s) (k : ∀ (s2 : KS) (jc : CJ) (jm : MJ), kOk s2 → J (clsA g a aK aL aT s2 jc ++ modA g b s2 jm) [(0, .ref sc), (1, .ref (a 0)), (2, .ref (b 0)), (3, .int (nI i))] 1506 []) : J (clsA g a aK aL aT s jc ++ modA g b s jm) [(0, .ref sc), (1, .ref (a 0)), (2, .ref (b 0)), (3, .int (nI i))] 1483 [] := by
  have hK := hJ.ko
  refine k_aload_n hK dL_law_1483 1 rfl ?_
  refine k_aload_n hK dL_law_1484 0 rfl ?_
  refine k_iload_n hK dL_law_1485 3 rfl ?_
  refine k_iconst (v := nI 1) hK dL_law_1486 (by decide) ?_
  refine n_iadd hK dL_law_1487 ?_
  refine l_sld hJ dL_law_1488 hL (by omega) ?_
  refine l_cls hK (cp_status l g a aK aL aT jc s hs (xs (i + 1))) mv_X3_status ml_L_182 rfl ⟨rfl, rfl, Nat.le_of_ble_eq_true rfl, Nat.le_of_ble_eq_true rfl⟩ rfl rfl (by decide) dL_law_1489 (fun r jc2 hr => ?_)
  refine k_aload_n hK dL_law_1492 2 rfl ?_
  refine k_aload_n hK dL_law_1493 0 rfl ?_
  refine k_iload_n hK dL_law_1494 3 rfl ?_
  refine k_iconst (v := nI 1) hK dL_law_1495 (by decide) ?_
  refine n_iadd hK dL_law_1496 ?_
  refine l_sld hJ dL_law_1497 hL (by omega) ?_
  refine l_mod hK (mp_status l g b jm s hs (xs (i + 1))) mv_X4_status ml_L_185 rfl ⟨rfl, rfl, Nat.le_of_ble_eq_true rfl, Nat.le_of_ble_eq_true rfl⟩ rfl rfl (Nat.le_of_ble_eq_true rfl) dL_law_1498 (fun r2 jm2 hr2 => ?_)
  exact k_icmp_eq (tgt := 1506) hK dL_law_1501 (by decide) (fun _ => k _ _ _ (ok_status hs (xs (i + 1)))) (fun h => absurd (hr.trans hr2.symm) h)
end LA
