/-! THE LAW: more cases -/
set_option maxRecDepth 20000 in
set_option maxHeartbeats 400000 in
theorem caL_leave {E : E3} {Q : Q3} {M : M3} {i : Int} (hE : ad3 E 99 0 = b3 E) (hi : 0 ≤ i ∧ i + 5 < (L3 E : Int) ∧ (L3 E : Int) ≤ 3072) (hI : Inv M) (k : ∀ (K : M3), Inv K → G3 E YL Q 1935 [(0, vR 99 0), (1, vR 0 0), (2, vR 44 0), (3, vI i)] [] K) : G3 E YL Q 1110 [(0, vR 99 0), (1, vR 0 0), (2, vR 44 0), (3, vI i)] [] M := by
  refine g3_aload_n 1 dL_law_1110 rfl rfl (g3_cV0 dL_law_1111 myX11_leave mlL_123 (z3 rfl) ob_0 (z3 rfl) (z3 rfl) (c3_mono (p_leave hI ) (fun v M1 _ h1 => ?_)))
  obtain ⟨⟨x, rfl⟩, h2⟩ := h1
  show G3 E YL Q 1114 [(0, vR 99 0), (1, vR 0 0), (2, vR 44 0), (3, vI i)] [vI x] M1
  refine g3_aload_n 2 dL_law_1114 rfl rfl (g3_cV0 dL_law_1115 myX12_leave mlL_126 (z3 rfl) ob_44 (z3 rfl) (z3 rfl) (c3_mono h2 (fun v2 K _ h3 => ?_)))
  obtain ⟨rfl, hK⟩ := h3
  show G3 E YL Q 1118 [(0, vR 99 0), (1, vR 0 0), (2, vR 44 0), (3, vI i)] [vI x, vI x] K
  exact g3_same (tgt := 1935) dL_law_1118 rfl (k K hK)
set_option maxRecDepth 20000 in
set_option maxHeartbeats 400000 in
theorem caL_sees {E : E3} {Q : Q3} {M : M3} {i : Int} (hE : ad3 E 99 0 = b3 E) (hi : 0 ≤ i ∧ i + 5 < (L3 E : Int) ∧ (L3 E : Int) ≤ 3072) (hI : Inv M) (k : ∀ (K : M3), Inv K → G3 E YL Q 1935 [(0, vR 99 0), (1, vR 0 0), (2, vR 44 0), (3, vI i)] [] K) : G3 E YL Q 1123 [(0, vR 99 0), (1, vR 0 0), (2, vR 44 0), (3, vI i)] [] M := by
  refine g3_aload_n 1 dL_law_1123 rfl rfl (g3_aload_n 0 dL_law_1124 rfl rfl (g3_iload_n 3 dL_law_1125 rfl rfl (g3_iconst dL_law_1126 (g3_iadd dL_law_1127 (g3_sld hE dL_law_1128 (by omega) (g3_aload_n 0 dL_law_1129 rfl rfl (g3_iload_n 3 dL_law_1130 rfl rfl (g3_iconst dL_law_1131 (g3_iadd dL_law_1132 (g3_sld hE dL_law_1133 (by omega) (g3_cV2 dL_law_1134 myX11_sees mlL_127 (z3 rfl) ob_0 (z3 rfl) (z3 rfl) (c3_mono (p_sees hI (sx3_rg E _) (sx3_rg E _)) (fun v M1 _ h1 => ?_)))))))))))))
  obtain ⟨⟨x, rfl⟩, h2⟩ := h1
  show G3 E YL Q 1137 [(0, vR 99 0), (1, vR 0 0), (2, vR 44 0), (3, vI i)] [vI x] M1
  refine g3_aload_n 2 dL_law_1137 rfl rfl (g3_aload_n 0 dL_law_1138 rfl rfl (g3_iload_n 3 dL_law_1139 rfl rfl (g3_iconst dL_law_1140 (g3_iadd dL_law_1141 (g3_sld hE dL_law_1142 (by omega) (g3_aload_n 0 dL_law_1143 rfl rfl (g3_iload_n 3 dL_law_1144 rfl rfl (g3_iconst dL_law_1145 (g3_iadd dL_law_1146 (g3_sld hE dL_law_1147 (by omega) (g3_cV2 dL_law_1148 myX12_sees mlL_130 (z3 rfl) ob_44 (z3 rfl) (z3 rfl) (c3_mono h2 (fun v2 K _ h3 => ?_)))))))))))))
  obtain ⟨rfl, hK⟩ := h3
  show G3 E YL Q 1151 [(0, vR 99 0), (1, vR 0 0), (2, vR 44 0), (3, vI i)] [vI x, vI x] K
  exact g3_same (tgt := 1935) dL_law_1151 rfl (k K hK)
set_option maxRecDepth 20000 in
set_option maxHeartbeats 400000 in
theorem caL_begun {E : E3} {Q : Q3} {M : M3} {i : Int} (hE : ad3 E 99 0 = b3 E) (hi : 0 ≤ i ∧ i + 5 < (L3 E : Int) ∧ (L3 E : Int) ≤ 3072) (hI : Inv M) (k : ∀ (K : M3), Inv K → G3 E YL Q 1935 [(0, vR 99 0), (1, vR 0 0), (2, vR 44 0), (3, vI i)] [] K) : G3 E YL Q 1156 [(0, vR 99 0), (1, vR 0 0), (2, vR 44 0), (3, vI i)] [] M := by
  refine g3_aload_n 1 dL_law_1156 rfl rfl (g3_aload_n 0 dL_law_1157 rfl rfl (g3_iload_n 3 dL_law_1158 rfl rfl (g3_iconst dL_law_1159 (g3_iadd dL_law_1160 (g3_sld hE dL_law_1161 (by omega) (g3_aload_n 0 dL_law_1162 rfl rfl (g3_iload_n 3 dL_law_1163 rfl rfl (g3_iconst dL_law_1164 (g3_iadd dL_law_1165 (g3_sld hE dL_law_1166 (by omega) (g3_aload_n 0 dL_law_1167 rfl rfl (g3_iload_n 3 dL_law_1168 rfl rfl (g3_iconst dL_law_1169 (g3_iadd dL_law_1170 (g3_sld hE dL_law_1171 (by omega) (g3_cV3 dL_law_1172 myX11_begun mlL_131 (z3 rfl) ob_0 (z3 rfl) (z3 rfl) (c3_mono (p_begun hI (sx3_rg E _) (sx3_rg E _) (sx3_rg E _)) (fun v M1 _ h1 => ?_))))))))))))))))))
  obtain ⟨⟨x, rfl⟩, h2⟩ := h1
  show G3 E YL Q 1175 [(0, vR 99 0), (1, vR 0 0), (2, vR 44 0), (3, vI i)] [vI x] M1
  refine g3_aload_n 2 dL_law_1175 rfl rfl (g3_aload_n 0 dL_law_1176 rfl rfl (g3_iload_n 3 dL_law_1177 rfl rfl (g3_iconst dL_law_1178 (g3_iadd dL_law_1179 (g3_sld hE dL_law_1180 (by omega) (g3_aload_n 0 dL_law_1181 rfl rfl (g3_iload_n 3 dL_law_1182 rfl rfl (g3_iconst dL_law_1183 (g3_iadd dL_law_1184 (g3_sld hE dL_law_1185 (by omega) (g3_aload_n 0 dL_law_1186 rfl rfl (g3_iload_n 3 dL_law_1187 rfl rfl (g3_iconst dL_law_1188 (g3_iadd dL_law_1189 (g3_sld hE dL_law_1190 (by omega) (g3_cV3 dL_law_1191 myX12_begun mlL_134 (z3 rfl) ob_44 (z3 rfl) (z3 rfl) (c3_mono h2 (fun v2 K _ h3 => ?_))))))))))))))))))
  obtain ⟨rfl, hK⟩ := h3
  show G3 E YL Q 1194 [(0, vR 99 0), (1, vR 0 0), (2, vR 44 0), (3, vI i)] [vI x, vI x] K
  exact g3_same (tgt := 1935) dL_law_1194 rfl (k K hK)
set_option maxRecDepth 20000 in
set_option maxHeartbeats 400000 in
theorem caL_teach {E : E3} {Q : Q3} {M : M3} {i : Int} (hE : ad3 E 99 0 = b3 E) (hi : 0 ≤ i ∧ i + 5 < (L3 E : Int) ∧ (L3 E : Int) ≤ 3072) (hI : Inv M) (k : ∀ (K : M3), Inv K → G3 E YL Q 1935 [(0, vR 99 0), (1, vR 0 0), (2, vR 44 0), (3, vI i)] [] K) : G3 E YL Q 1199 [(0, vR 99 0), (1, vR 0 0), (2, vR 44 0), (3, vI i)] [] M := by
  refine g3_aload_n 1 dL_law_1199 rfl rfl (g3_aload_n 0 dL_law_1200 rfl rfl (g3_iload_n 3 dL_law_1201 rfl rfl (g3_iconst dL_law_1202 (g3_iadd dL_law_1203 (g3_sld hE dL_law_1204 (by omega) (g3_cV1 dL_law_1205 myX11_teach mlL_135 (z3 rfl) ob_0 (z3 rfl) (z3 rfl) (c3_mono (p_teach hI (sx3_rg E _)) (fun v M1 _ h1 => ?_))))))))
  obtain ⟨⟨x, rfl⟩, h2⟩ := h1
  show G3 E YL Q 1208 [(0, vR 99 0), (1, vR 0 0), (2, vR 44 0), (3, vI i)] [vI x] M1
  refine g3_aload_n 2 dL_law_1208 rfl rfl (g3_aload_n 0 dL_law_1209 rfl rfl (g3_iload_n 3 dL_law_1210 rfl rfl (g3_iconst dL_law_1211 (g3_iadd dL_law_1212 (g3_sld hE dL_law_1213 (by omega) (g3_cV1 dL_law_1214 myX12_teach mlL_138 (z3 rfl) ob_44 (z3 rfl) (z3 rfl) (c3_mono h2 (fun v2 K _ h3 => ?_))))))))
  obtain ⟨rfl, hK⟩ := h3
  show G3 E YL Q 1217 [(0, vR 99 0), (1, vR 0 0), (2, vR 44 0), (3, vI i)] [vI x, vI x] K
  exact g3_same (tgt := 1935) dL_law_1217 rfl (k K hK)
set_option maxRecDepth 20000 in
set_option maxHeartbeats 400000 in
theorem caL_ready {E : E3} {Q : Q3} {M : M3} {i : Int} (hE : ad3 E 99 0 = b3 E) (hi : 0 ≤ i ∧ i + 5 < (L3 E : Int) ∧ (L3 E : Int) ≤ 3072) (hI : Inv M) (k : ∀ (K : M3), Inv K → G3 E YL Q 1935 [(0, vR 99 0), (1, vR 0 0), (2, vR 44 0), (3, vI i)] [] K) : G3 E YL Q 1222 [(0, vR 99 0), (1, vR 0 0), (2, vR 44 0), (3, vI i)] [] M := by
  refine g3_aload_n 1 dL_law_1222 rfl rfl (g3_aload_n 0 dL_law_1223 rfl rfl (g3_iload_n 3 dL_law_1224 rfl rfl (g3_iconst dL_law_1225 (g3_iadd dL_law_1226 (g3_sld hE dL_law_1227 (by omega) (g3_cV1 dL_law_1228 myX11_ready mlL_139 (z3 rfl) ob_0 (z3 rfl) (z3 rfl) (c3_mono (p_ready hI (sx3_rg E _)) (fun v M1 _ h1 => ?_))))))))
  obtain ⟨⟨x, rfl⟩, h2⟩ := h1
  show G3 E YL Q 1231 [(0, vR 99 0), (1, vR 0 0), (2, vR 44 0), (3, vI i)] [vI x] M1
  refine g3_aload_n 2 dL_law_1231 rfl rfl (g3_aload_n 0 dL_law_1232 rfl rfl (g3_iload_n 3 dL_law_1233 rfl rfl (g3_iconst dL_law_1234 (g3_iadd dL_law_1235 (g3_sld hE dL_law_1236 (by omega) (g3_cV1 dL_law_1237 myX12_ready mlL_142 (z3 rfl) ob_44 (z3 rfl) (z3 rfl) (c3_mono h2 (fun v2 K _ h3 => ?_))))))))
  obtain ⟨rfl, hK⟩ := h3
  show G3 E YL Q 1240 [(0, vR 99 0), (1, vR 0 0), (2, vR 44 0), (3, vI i)] [vI x, vI x] K
  exact g3_same (tgt := 1935) dL_law_1240 rfl (k K hK)
set_option maxRecDepth 20000 in
set_option maxHeartbeats 400000 in
theorem caL_helpers {E : E3} {Q : Q3} {M : M3} {i : Int} (hE : ad3 E 99 0 = b3 E) (hi : 0 ≤ i ∧ i + 5 < (L3 E : Int) ∧ (L3 E : Int) ≤ 3072) (hI : Inv M) (k : ∀ (K : M3), Inv K → G3 E YL Q 1935 [(0, vR 99 0), (1, vR 0 0), (2, vR 44 0), (3, vI i)] [] K) : G3 E YL Q 1245 [(0, vR 99 0), (1, vR 0 0), (2, vR 44 0), (3, vI i)] [] M := by
  refine g3_aload_n 1 dL_law_1245 rfl rfl (g3_aload_n 0 dL_law_1246 rfl rfl (g3_iload_n 3 dL_law_1247 rfl rfl (g3_iconst dL_law_1248 (g3_iadd dL_law_1249 (g3_sld hE dL_law_1250 (by omega) (g3_aload_n 0 dL_law_1251 rfl rfl (g3_iload_n 3 dL_law_1252 rfl rfl (g3_iconst dL_law_1253 (g3_iadd dL_law_1254 (g3_sld hE dL_law_1255 (by omega) (g3_cV2 dL_law_1256 myX11_helpers mlL_143 (z3 rfl) ob_0 (z3 rfl) (z3 rfl) (c3_mono (p_helpers hI (sx3_rg E _) (sx3_rg E _)) (fun v M1 _ h1 => ?_)))))))))))))
  obtain ⟨⟨x, rfl⟩, h2⟩ := h1
  show G3 E YL Q 1259 [(0, vR 99 0), (1, vR 0 0), (2, vR 44 0), (3, vI i)] [vI x] M1
  refine g3_aload_n 2 dL_law_1259 rfl rfl (g3_aload_n 0 dL_law_1260 rfl rfl (g3_iload_n 3 dL_law_1261 rfl rfl (g3_iconst dL_law_1262 (g3_iadd dL_law_1263 (g3_sld hE dL_law_1264 (by omega) (g3_aload_n 0 dL_law_1265 rfl rfl (g3_iload_n 3 dL_law_1266 rfl rfl (g3_iconst dL_law_1267 (g3_iadd dL_law_1268 (g3_sld hE dL_law_1269 (by omega) (g3_cV2 dL_law_1270 myX12_helpers mlL_146 (z3 rfl) ob_44 (z3 rfl) (z3 rfl) (c3_mono h2 (fun v2 K _ h3 => ?_)))))))))))))
  obtain ⟨rfl, hK⟩ := h3
  show G3 E YL Q 1273 [(0, vR 99 0), (1, vR 0 0), (2, vR 44 0), (3, vI i)] [vI x, vI x] K
  exact g3_same (tgt := 1935) dL_law_1273 rfl (k K hK)
set_option maxRecDepth 20000 in
set_option maxHeartbeats 400000 in
theorem caL_list {E : E3} {Q : Q3} {M : M3} {i : Int} (hE : ad3 E 99 0 = b3 E) (hi : 0 ≤ i ∧ i + 5 < (L3 E : Int) ∧ (L3 E : Int) ≤ 3072) (hI : Inv M) (k : ∀ (K : M3), Inv K → G3 E YL Q 1935 [(0, vR 99 0), (1, vR 0 0), (2, vR 44 0), (3, vI i)] [] K) : G3 E YL Q 1278 [(0, vR 99 0), (1, vR 0 0), (2, vR 44 0), (3, vI i)] [] M := by
  refine g3_aload_n 1 dL_law_1278 rfl rfl (g3_cV0 dL_law_1279 myX11_list mlL_147 (z3 rfl) ob_0 (z3 rfl) (z3 rfl) (c3_mono (p_list hI ) (fun v M1 _ h1 => ?_)))
  obtain ⟨⟨x, rfl⟩, h2⟩ := h1
  show G3 E YL Q 1282 [(0, vR 99 0), (1, vR 0 0), (2, vR 44 0), (3, vI i)] [vI x] M1
  refine g3_aload_n 2 dL_law_1282 rfl rfl (g3_cV0 dL_law_1283 myX12_list mlL_150 (z3 rfl) ob_44 (z3 rfl) (z3 rfl) (c3_mono h2 (fun v2 K _ h3 => ?_)))
  obtain ⟨rfl, hK⟩ := h3
  show G3 E YL Q 1286 [(0, vR 99 0), (1, vR 0 0), (2, vR 44 0), (3, vI i)] [vI x, vI x] K
  exact g3_same (tgt := 1935) dL_law_1286 rfl (k K hK)
set_option maxRecDepth 20000 in
set_option maxHeartbeats 400000 in
theorem caL_listIs {E : E3} {Q : Q3} {M : M3} {i : Int} (hE : ad3 E 99 0 = b3 E) (hi : 0 ≤ i ∧ i + 5 < (L3 E : Int) ∧ (L3 E : Int) ≤ 3072) (hI : Inv M) (k : ∀ (K : M3), Inv K → G3 E YL Q 1935 [(0, vR 99 0), (1, vR 0 0), (2, vR 44 0), (3, vI i)] [] K) : G3 E YL Q 1291 [(0, vR 99 0), (1, vR 0 0), (2, vR 44 0), (3, vI i)] [] M := by
  refine g3_aload_n 1 dL_law_1291 rfl rfl (g3_aload_n 0 dL_law_1292 rfl rfl (g3_iload_n 3 dL_law_1293 rfl rfl (g3_iconst dL_law_1294 (g3_iadd dL_law_1295 (g3_sld hE dL_law_1296 (by omega) (g3_aload_n 0 dL_law_1297 rfl rfl (g3_iload_n 3 dL_law_1298 rfl rfl (g3_iconst dL_law_1299 (g3_iadd dL_law_1300 (g3_sld hE dL_law_1301 (by omega) (g3_cV2 dL_law_1302 myX11_listIs mlL_151 (z3 rfl) ob_0 (z3 rfl) (z3 rfl) (c3_mono (p_listIs hI (sx3_rg E _) (sx3_rg E _)) (fun v M1 _ h1 => ?_)))))))))))))
  obtain ⟨⟨x, rfl⟩, h2⟩ := h1
  show G3 E YL Q 1305 [(0, vR 99 0), (1, vR 0 0), (2, vR 44 0), (3, vI i)] [vI x] M1
  refine g3_aload_n 2 dL_law_1305 rfl rfl (g3_aload_n 0 dL_law_1306 rfl rfl (g3_iload_n 3 dL_law_1307 rfl rfl (g3_iconst dL_law_1308 (g3_iadd dL_law_1309 (g3_sld hE dL_law_1310 (by omega) (g3_aload_n 0 dL_law_1311 rfl rfl (g3_iload_n 3 dL_law_1312 rfl rfl (g3_iconst dL_law_1313 (g3_iadd dL_law_1314 (g3_sld hE dL_law_1315 (by omega) (g3_cV2 dL_law_1316 myX12_listIs mlL_154 (z3 rfl) ob_44 (z3 rfl) (z3 rfl) (c3_mono h2 (fun v2 K _ h3 => ?_)))))))))))))
  obtain ⟨rfl, hK⟩ := h3
  show G3 E YL Q 1319 [(0, vR 99 0), (1, vR 0 0), (2, vR 44 0), (3, vI i)] [vI x, vI x] K
  exact g3_same (tgt := 1935) dL_law_1319 rfl (k K hK)
set_option maxRecDepth 20000 in
set_option maxHeartbeats 400000 in
theorem caL_ripe {E : E3} {Q : Q3} {M : M3} {i : Int} (hE : ad3 E 99 0 = b3 E) (hi : 0 ≤ i ∧ i + 5 < (L3 E : Int) ∧ (L3 E : Int) ≤ 3072) (hI : Inv M) (k : ∀ (K : M3), Inv K → G3 E YL Q 1935 [(0, vR 99 0), (1, vR 0 0), (2, vR 44 0), (3, vI i)] [] K) : G3 E YL Q 1324 [(0, vR 99 0), (1, vR 0 0), (2, vR 44 0), (3, vI i)] [] M := by
  refine g3_aload_n 1 dL_law_1324 rfl rfl (g3_aload_n 0 dL_law_1325 rfl rfl (g3_iload_n 3 dL_law_1326 rfl rfl (g3_iconst dL_law_1327 (g3_iadd dL_law_1328 (g3_sld hE dL_law_1329 (by omega) (g3_aload_n 0 dL_law_1330 rfl rfl (g3_iload_n 3 dL_law_1331 rfl rfl (g3_iconst dL_law_1332 (g3_iadd dL_law_1333 (g3_sld hE dL_law_1334 (by omega) (g3_aload_n 0 dL_law_1335 rfl rfl (g3_iload_n 3 dL_law_1336 rfl rfl (g3_iconst dL_law_1337 (g3_iadd dL_law_1338 (g3_sld hE dL_law_1339 (by omega) (g3_cV3 dL_law_1340 myX11_ripe mlL_155 (z3 rfl) ob_0 (z3 rfl) (z3 rfl) (c3_mono (p_ripe hI (sx3_rg E _) (sx3_rg E _) (sx3_rg E _)) (fun v M1 _ h1 => ?_))))))))))))))))))
  obtain ⟨⟨x, rfl⟩, h2⟩ := h1
  show G3 E YL Q 1343 [(0, vR 99 0), (1, vR 0 0), (2, vR 44 0), (3, vI i)] [vI x] M1
  refine g3_aload_n 2 dL_law_1343 rfl rfl (g3_aload_n 0 dL_law_1344 rfl rfl (g3_iload_n 3 dL_law_1345 rfl rfl (g3_iconst dL_law_1346 (g3_iadd dL_law_1347 (g3_sld hE dL_law_1348 (by omega) (g3_aload_n 0 dL_law_1349 rfl rfl (g3_iload_n 3 dL_law_1350 rfl rfl (g3_iconst dL_law_1351 (g3_iadd dL_law_1352 (g3_sld hE dL_law_1353 (by omega) (g3_aload_n 0 dL_law_1354 rfl rfl (g3_iload_n 3 dL_law_1355 rfl rfl (g3_iconst dL_law_1356 (g3_iadd dL_law_1357 (g3_sld hE dL_law_1358 (by omega) (g3_cV3 dL_law_1359 myX12_ripe mlL_158 (z3 rfl) ob_44 (z3 rfl) (z3 rfl) (c3_mono h2 (fun v2 K _ h3 => ?_))))))))))))))))))
  obtain ⟨rfl, hK⟩ := h3
  show G3 E YL Q 1362 [(0, vR 99 0), (1, vR 0 0), (2, vR 44 0), (3, vI i)] [vI x, vI x] K
  exact g3_same (tgt := 1935) dL_law_1362 rfl (k K hK)
set_option maxRecDepth 20000 in
set_option maxHeartbeats 400000 in
theorem caL_order {E : E3} {Q : Q3} {M : M3} {i : Int} (hE : ad3 E 99 0 = b3 E) (hi : 0 ≤ i ∧ i + 5 < (L3 E : Int) ∧ (L3 E : Int) ≤ 3072) (hI : Inv M) (k : ∀ (K : M3), Inv K → G3 E YL Q 1935 [(0, vR 99 0), (1, vR 0 0), (2, vR 44 0), (3, vI i)] [] K) : G3 E YL Q 1367 [(0, vR 99 0), (1, vR 0 0), (2, vR 44 0), (3, vI i)] [] M := by
  refine g3_aload_n 1 dL_law_1367 rfl rfl (g3_aload_n 0 dL_law_1368 rfl rfl (g3_iload_n 3 dL_law_1369 rfl rfl (g3_iconst dL_law_1370 (g3_iadd dL_law_1371 (g3_sld hE dL_law_1372 (by omega) (g3_aload_n 0 dL_law_1373 rfl rfl (g3_iload_n 3 dL_law_1374 rfl rfl (g3_iconst dL_law_1375 (g3_iadd dL_law_1376 (g3_sld hE dL_law_1377 (by omega) (g3_cV2 dL_law_1378 myX11_order mlL_159 (z3 rfl) ob_0 (z3 rfl) (z3 rfl) (c3_mono (p_order hI (sx3_rg E _) (sx3_rg E _)) (fun v M1 _ h1 => ?_)))))))))))))
  obtain ⟨⟨x, rfl⟩, h2⟩ := h1
  show G3 E YL Q 1381 [(0, vR 99 0), (1, vR 0 0), (2, vR 44 0), (3, vI i)] [vI x] M1
  refine g3_aload_n 2 dL_law_1381 rfl rfl (g3_aload_n 0 dL_law_1382 rfl rfl (g3_iload_n 3 dL_law_1383 rfl rfl (g3_iconst dL_law_1384 (g3_iadd dL_law_1385 (g3_sld hE dL_law_1386 (by omega) (g3_aload_n 0 dL_law_1387 rfl rfl (g3_iload_n 3 dL_law_1388 rfl rfl (g3_iconst dL_law_1389 (g3_iadd dL_law_1390 (g3_sld hE dL_law_1391 (by omega) (g3_cV2 dL_law_1392 myX12_order mlL_162 (z3 rfl) ob_44 (z3 rfl) (z3 rfl) (c3_mono h2 (fun v2 K _ h3 => ?_)))))))))))))
  obtain ⟨rfl, hK⟩ := h3
  show G3 E YL Q 1395 [(0, vR 99 0), (1, vR 0 0), (2, vR 44 0), (3, vI i)] [vI x, vI x] K
  exact g3_same (tgt := 1935) dL_law_1395 rfl (k K hK)
set_option maxRecDepth 20000 in
set_option maxHeartbeats 400000 in
theorem caL_number {E : E3} {Q : Q3} {M : M3} {i : Int} (hE : ad3 E 99 0 = b3 E) (hi : 0 ≤ i ∧ i + 5 < (L3 E : Int) ∧ (L3 E : Int) ≤ 3072) (hI : Inv M) (k : ∀ (K : M3), Inv K → G3 E YL Q 1935 [(0, vR 99 0), (1, vR 0 0), (2, vR 44 0), (3, vI i)] [] K) : G3 E YL Q 1400 [(0, vR 99 0), (1, vR 0 0), (2, vR 44 0), (3, vI i)] [] M := by
  refine g3_aload_n 1 dL_law_1400 rfl rfl (g3_aload_n 0 dL_law_1401 rfl rfl (g3_iload_n 3 dL_law_1402 rfl rfl (g3_iconst dL_law_1403 (g3_iadd dL_law_1404 (g3_sld hE dL_law_1405 (by omega) (g3_aload_n 0 dL_law_1406 rfl rfl (g3_iload_n 3 dL_law_1407 rfl rfl (g3_iconst dL_law_1408 (g3_iadd dL_law_1409 (g3_sld hE dL_law_1410 (by omega) (g3_aload_n 0 dL_law_1411 rfl rfl (g3_iload_n 3 dL_law_1412 rfl rfl (g3_iconst dL_law_1413 (g3_iadd dL_law_1414 (g3_sld hE dL_law_1415 (by omega) (g3_aload_n 0 dL_law_1416 rfl rfl (g3_iload_n 3 dL_law_1417 rfl rfl (g3_iconst dL_law_1418 (g3_iadd dL_law_1419 (g3_sld hE dL_law_1420 (by omega) (g3_cV4 dL_law_1421 myX11_number mlL_163 (z3 rfl) ob_0 (z3 rfl) (z3 rfl) (c3_mono (p_number hI (sx3_rg E _) (sx3_rg E _) (sx3_rg E _) (sx3_rg E _)) (fun v M1 _ h1 => ?_)))))))))))))))))))))))
  obtain ⟨⟨x, rfl⟩, h2⟩ := h1
  show G3 E YL Q 1424 [(0, vR 99 0), (1, vR 0 0), (2, vR 44 0), (3, vI i)] [vI x] M1
  refine g3_aload_n 2 dL_law_1424 rfl rfl (g3_aload_n 0 dL_law_1425 rfl rfl (g3_iload_n 3 dL_law_1426 rfl rfl (g3_iconst dL_law_1427 (g3_iadd dL_law_1428 (g3_sld hE dL_law_1429 (by omega) (g3_aload_n 0 dL_law_1430 rfl rfl (g3_iload_n 3 dL_law_1431 rfl rfl (g3_iconst dL_law_1432 (g3_iadd dL_law_1433 (g3_sld hE dL_law_1434 (by omega) (g3_aload_n 0 dL_law_1435 rfl rfl (g3_iload_n 3 dL_law_1436 rfl rfl (g3_iconst dL_law_1437 (g3_iadd dL_law_1438 (g3_sld hE dL_law_1439 (by omega) (g3_aload_n 0 dL_law_1440 rfl rfl (g3_iload_n 3 dL_law_1441 rfl rfl (g3_iconst dL_law_1442 (g3_iadd dL_law_1443 (g3_sld hE dL_law_1444 (by omega) (g3_cV4 dL_law_1445 myX12_number mlL_167 (z3 rfl) ob_44 (z3 rfl) (z3 rfl) (c3_mono h2 (fun v2 K _ h3 => ?_)))))))))))))))))))))))
  obtain ⟨rfl, hK⟩ := h3
  show G3 E YL Q 1448 [(0, vR 99 0), (1, vR 0 0), (2, vR 44 0), (3, vI i)] [vI x, vI x] K
  exact g3_same (tgt := 1935) dL_law_1448 rfl (k K hK)
set_option maxRecDepth 20000 in
set_option maxHeartbeats 400000 in
theorem caL_chosen {E : E3} {Q : Q3} {M : M3} {i : Int} (hE : ad3 E 99 0 = b3 E) (hi : 0 ≤ i ∧ i + 5 < (L3 E : Int) ∧ (L3 E : Int) ≤ 3072) (hI : Inv M) (k : ∀ (K : M3), Inv K → G3 E YL Q 1935 [(0, vR 99 0), (1, vR 0 0), (2, vR 44 0), (3, vI i)] [] K) : G3 E YL Q 1453 [(0, vR 99 0), (1, vR 0 0), (2, vR 44 0), (3, vI i)] [] M := by
  refine g3_aload_n 1 dL_law_1453 rfl rfl (g3_aload_n 0 dL_law_1454 rfl rfl (g3_iload_n 3 dL_law_1455 rfl rfl (g3_iconst dL_law_1456 (g3_iadd dL_law_1457 (g3_sld hE dL_law_1458 (by omega) (g3_cV1 dL_law_1459 myX11_chosen mlL_168 (z3 rfl) ob_0 (z3 rfl) (z3 rfl) (c3_mono (p_chosen hI (sx3_rg E _)) (fun v M1 _ h1 => ?_))))))))
  obtain ⟨⟨x, rfl⟩, h2⟩ := h1
  show G3 E YL Q 1462 [(0, vR 99 0), (1, vR 0 0), (2, vR 44 0), (3, vI i)] [vI x] M1
  refine g3_aload_n 2 dL_law_1462 rfl rfl (g3_aload_n 0 dL_law_1463 rfl rfl (g3_iload_n 3 dL_law_1464 rfl rfl (g3_iconst dL_law_1465 (g3_iadd dL_law_1466 (g3_sld hE dL_law_1467 (by omega) (g3_cV1 dL_law_1468 myX12_chosen mlL_171 (z3 rfl) ob_44 (z3 rfl) (z3 rfl) (c3_mono h2 (fun v2 K _ h3 => ?_))))))))
  obtain ⟨rfl, hK⟩ := h3
  show G3 E YL Q 1471 [(0, vR 99 0), (1, vR 0 0), (2, vR 44 0), (3, vI i)] [vI x, vI x] K
  exact g3_same (tgt := 1935) dL_law_1471 rfl (k K hK)
set_option maxRecDepth 20000 in
set_option maxHeartbeats 400000 in
theorem caL_changed {E : E3} {Q : Q3} {M : M3} {i : Int} (hE : ad3 E 99 0 = b3 E) (hi : 0 ≤ i ∧ i + 5 < (L3 E : Int) ∧ (L3 E : Int) ≤ 3072) (hI : Inv M) (k : ∀ (K : M3), Inv K → G3 E YL Q 1935 [(0, vR 99 0), (1, vR 0 0), (2, vR 44 0), (3, vI i)] [] K) : G3 E YL Q 1476 [(0, vR 99 0), (1, vR 0 0), (2, vR 44 0), (3, vI i)] [] M := by
  refine g3_aload_n 1 dL_law_1476 rfl rfl (g3_aload_n 0 dL_law_1477 rfl rfl (g3_iload_n 3 dL_law_1478 rfl rfl (g3_iconst dL_law_1479 (g3_iadd dL_law_1480 (g3_sld hE dL_law_1481 (by omega) (g3_cV1 dL_law_1482 myX11_changed mlL_172 (z3 rfl) ob_0 (z3 rfl) (z3 rfl) (c3_mono (p_changed hI (sx3_rg E _)) (fun v M1 _ h1 => ?_))))))))
  obtain ⟨⟨x, rfl⟩, h2⟩ := h1
  show G3 E YL Q 1485 [(0, vR 99 0), (1, vR 0 0), (2, vR 44 0), (3, vI i)] [vI x] M1
  refine g3_aload_n 2 dL_law_1485 rfl rfl (g3_aload_n 0 dL_law_1486 rfl rfl (g3_iload_n 3 dL_law_1487 rfl rfl (g3_iconst dL_law_1488 (g3_iadd dL_law_1489 (g3_sld hE dL_law_1490 (by omega) (g3_cV1 dL_law_1491 myX12_changed mlL_175 (z3 rfl) ob_44 (z3 rfl) (z3 rfl) (c3_mono h2 (fun v2 K _ h3 => ?_))))))))
  obtain ⟨rfl, hK⟩ := h3
  show G3 E YL Q 1494 [(0, vR 99 0), (1, vR 0 0), (2, vR 44 0), (3, vI i)] [vI x, vI x] K
  exact g3_same (tgt := 1935) dL_law_1494 rfl (k K hK)
set_option maxRecDepth 20000 in
set_option maxHeartbeats 400000 in
theorem caL_wins {E : E3} {Q : Q3} {M : M3} {i : Int} (hE : ad3 E 99 0 = b3 E) (hi : 0 ≤ i ∧ i + 5 < (L3 E : Int) ∧ (L3 E : Int) ≤ 3072) (hI : Inv M) (k : ∀ (K : M3), Inv K → G3 E YL Q 1935 [(0, vR 99 0), (1, vR 0 0), (2, vR 44 0), (3, vI i)] [] K) : G3 E YL Q 1499 [(0, vR 99 0), (1, vR 0 0), (2, vR 44 0), (3, vI i)] [] M := by
  refine g3_aload_n 1 dL_law_1499 rfl rfl (g3_aload_n 0 dL_law_1500 rfl rfl (g3_iload_n 3 dL_law_1501 rfl rfl (g3_iconst dL_law_1502 (g3_iadd dL_law_1503 (g3_sld hE dL_law_1504 (by omega) (g3_cV1 dL_law_1505 myX11_wins mlL_176 (z3 rfl) ob_0 (z3 rfl) (z3 rfl) (c3_mono (p_wins hI (sx3_rg E _)) (fun v M1 _ h1 => ?_))))))))
  obtain ⟨⟨x, rfl⟩, h2⟩ := h1
  show G3 E YL Q 1508 [(0, vR 99 0), (1, vR 0 0), (2, vR 44 0), (3, vI i)] [vI x] M1
  refine g3_aload_n 2 dL_law_1508 rfl rfl (g3_aload_n 0 dL_law_1509 rfl rfl (g3_iload_n 3 dL_law_1510 rfl rfl (g3_iconst dL_law_1511 (g3_iadd dL_law_1512 (g3_sld hE dL_law_1513 (by omega) (g3_cV1 dL_law_1514 myX12_wins mlL_179 (z3 rfl) ob_44 (z3 rfl) (z3 rfl) (c3_mono h2 (fun v2 K _ h3 => ?_))))))))
  obtain ⟨rfl, hK⟩ := h3
  show G3 E YL Q 1517 [(0, vR 99 0), (1, vR 0 0), (2, vR 44 0), (3, vI i)] [vI x, vI x] K
  exact g3_same (tgt := 1935) dL_law_1517 rfl (k K hK)
set_option maxRecDepth 20000 in
set_option maxHeartbeats 400000 in
theorem caL_choice {E : E3} {Q : Q3} {M : M3} {i : Int} (hE : ad3 E 99 0 = b3 E) (hi : 0 ≤ i ∧ i + 5 < (L3 E : Int) ∧ (L3 E : Int) ≤ 3072) (hI : Inv M) (k : ∀ (K : M3), Inv K → G3 E YL Q 1935 [(0, vR 99 0), (1, vR 0 0), (2, vR 44 0), (3, vI i)] [] K) : G3 E YL Q 1522 [(0, vR 99 0), (1, vR 0 0), (2, vR 44 0), (3, vI i)] [] M := by
  by_cases z : sx3 E (i + 1) = 0
  · refine g3_aload_n 1 dL_law_1522 rfl rfl (g3_aload_n 0 dL_law_1523 rfl rfl (g3_iload_n 3 dL_law_1524 rfl rfl (g3_iconst dL_law_1525 (g3_iadd dL_law_1526 (g3_sld hE dL_law_1527 (by omega) (g3_if_eq_T (tgt := 1535) dL_law_1528 rfl ⟨(sx3_rg E _).1, (sx3_rg E _).2, z⟩ (g3_iconst dL_law_1535 (g3_aload_n 0 dL_law_1536 rfl rfl (g3_iload_n 3 dL_law_1537 rfl rfl (g3_iconst dL_law_1538 (g3_iadd dL_law_1539 (g3_sld hE dL_law_1540 (by omega) (g3_aload_n 0 dL_law_1541 rfl rfl (g3_iload_n 3 dL_law_1542 rfl rfl (g3_iconst dL_law_1543 (g3_iadd dL_law_1544 (g3_sld hE dL_law_1545 (by omega) (g3_cV3 dL_law_1546 myX11_choice mlL_180 (z3 rfl) ob_0 (z3 rfl) (z3 rfl) (c3_mono (p_choice hI (Or.inl rfl) (sx3_rg E _) (sx3_rg E _)) (fun v M1 _ h1 => ?_))))))))))))))))))))
    obtain ⟨⟨x, rfl⟩, h2⟩ := h1
    show G3 E YL Q 1549 [(0, vR 99 0), (1, vR 0 0), (2, vR 44 0), (3, vI i)] [vI x] M1
    refine g3_aload_n 2 dL_law_1549 rfl rfl (g3_aload_n 0 dL_law_1550 rfl rfl (g3_iload_n 3 dL_law_1551 rfl rfl (g3_iconst dL_law_1552 (g3_iadd dL_law_1553 (g3_sld hE dL_law_1554 (by omega) (g3_if_eq_T (tgt := 1562) dL_law_1555 rfl ⟨(sx3_rg E _).1, (sx3_rg E _).2, z⟩ (g3_iconst dL_law_1562 (g3_aload_n 0 dL_law_1563 rfl rfl (g3_iload_n 3 dL_law_1564 rfl rfl (g3_iconst dL_law_1565 (g3_iadd dL_law_1566 (g3_sld hE dL_law_1567 (by omega) (g3_aload_n 0 dL_law_1568 rfl rfl (g3_iload_n 3 dL_law_1569 rfl rfl (g3_iconst dL_law_1570 (g3_iadd dL_law_1571 (g3_sld hE dL_law_1572 (by omega) (g3_cV3 dL_law_1573 myX12_choice mlL_184 (z3 rfl) ob_44 (z3 rfl) (z3 rfl) (c3_mono h2 (fun v2 K _ h3 => ?_))))))))))))))))))))
    obtain ⟨rfl, hK⟩ := h3
    show G3 E YL Q 1576 [(0, vR 99 0), (1, vR 0 0), (2, vR 44 0), (3, vI i)] [vI x, vI x] K
    exact g3_same (tgt := 1935) dL_law_1576 rfl (k K hK)
  · refine g3_aload_n 1 dL_law_1522 rfl rfl (g3_aload_n 0 dL_law_1523 rfl rfl (g3_iload_n 3 dL_law_1524 rfl rfl (g3_iconst dL_law_1525 (g3_iadd dL_law_1526 (g3_sld hE dL_law_1527 (by omega) (g3_if_eq_F dL_law_1528 (tgt := 1535) rfl ⟨(sx3_rg E _).1, (sx3_rg E _).2, z⟩ (g3_iconst dL_law_1531 (g3_goto (tgt := 1536) dL_law_1532 rfl (g3_aload_n 0 dL_law_1536 rfl rfl (g3_iload_n 3 dL_law_1537 rfl rfl (g3_iconst dL_law_1538 (g3_iadd dL_law_1539 (g3_sld hE dL_law_1540 (by omega) (g3_aload_n 0 dL_law_1541 rfl rfl (g3_iload_n 3 dL_law_1542 rfl rfl (g3_iconst dL_law_1543 (g3_iadd dL_law_1544 (g3_sld hE dL_law_1545 (by omega) (g3_cV3 dL_law_1546 myX11_choice mlL_180 (z3 rfl) ob_0 (z3 rfl) (z3 rfl) (c3_mono (p_choice hI (Or.inr rfl) (sx3_rg E _) (sx3_rg E _)) (fun v M1 _ h1 => ?_)))))))))))))))))))))
    obtain ⟨⟨x, rfl⟩, h2⟩ := h1
    show G3 E YL Q 1549 [(0, vR 99 0), (1, vR 0 0), (2, vR 44 0), (3, vI i)] [vI x] M1
    refine g3_aload_n 2 dL_law_1549 rfl rfl (g3_aload_n 0 dL_law_1550 rfl rfl (g3_iload_n 3 dL_law_1551 rfl rfl (g3_iconst dL_law_1552 (g3_iadd dL_law_1553 (g3_sld hE dL_law_1554 (by omega) (g3_if_eq_F dL_law_1555 (tgt := 1562) rfl ⟨(sx3_rg E _).1, (sx3_rg E _).2, z⟩ (g3_iconst dL_law_1558 (g3_goto (tgt := 1563) dL_law_1559 rfl (g3_aload_n 0 dL_law_1563 rfl rfl (g3_iload_n 3 dL_law_1564 rfl rfl (g3_iconst dL_law_1565 (g3_iadd dL_law_1566 (g3_sld hE dL_law_1567 (by omega) (g3_aload_n 0 dL_law_1568 rfl rfl (g3_iload_n 3 dL_law_1569 rfl rfl (g3_iconst dL_law_1570 (g3_iadd dL_law_1571 (g3_sld hE dL_law_1572 (by omega) (g3_cV3 dL_law_1573 myX12_choice mlL_184 (z3 rfl) ob_44 (z3 rfl) (z3 rfl) (c3_mono h2 (fun v2 K _ h3 => ?_)))))))))))))))))))))
    obtain ⟨rfl, hK⟩ := h3
    show G3 E YL Q 1576 [(0, vR 99 0), (1, vR 0 0), (2, vR 44 0), (3, vI i)] [vI x, vI x] K
    exact g3_same (tgt := 1935) dL_law_1576 rfl (k K hK)
set_option maxRecDepth 20000 in
set_option maxHeartbeats 400000 in
theorem caL_drop {E : E3} {Q : Q3} {M : M3} {i : Int} (hE : ad3 E 99 0 = b3 E) (hi : 0 ≤ i ∧ i + 5 < (L3 E : Int) ∧ (L3 E : Int) ≤ 3072) (hI : Inv M) (k : ∀ (K : M3), Inv K → G3 E YL Q 1935 [(0, vR 99 0), (1, vR 0 0), (2, vR 44 0), (3, vI i)] [] K) : G3 E YL Q 1581 [(0, vR 99 0), (1, vR 0 0), (2, vR 44 0), (3, vI i)] [] M := by
  refine g3_aload_n 1 dL_law_1581 rfl rfl (g3_cV0 dL_law_1582 myX11_drop mlL_185 (z3 rfl) ob_0 (z3 rfl) (z3 rfl) (c3_mono (p_drop hI ) (fun v M1 _ h1 => ?_)))
  obtain ⟨⟨x, rfl⟩, h2⟩ := h1
  show G3 E YL Q 1585 [(0, vR 99 0), (1, vR 0 0), (2, vR 44 0), (3, vI i)] [vI x] M1
  refine g3_aload_n 2 dL_law_1585 rfl rfl (g3_cV0 dL_law_1586 myX12_drop mlL_188 (z3 rfl) ob_44 (z3 rfl) (z3 rfl) (c3_mono h2 (fun v2 K _ h3 => ?_)))
  obtain ⟨rfl, hK⟩ := h3
  show G3 E YL Q 1589 [(0, vR 99 0), (1, vR 0 0), (2, vR 44 0), (3, vI i)] [vI x, vI x] K
  exact g3_same (tgt := 1935) dL_law_1589 rfl (k K hK)
set_option maxRecDepth 20000 in
set_option maxHeartbeats 400000 in
theorem caL_judge {E : E3} {Q : Q3} {M : M3} {i : Int} (hE : ad3 E 99 0 = b3 E) (hi : 0 ≤ i ∧ i + 5 < (L3 E : Int) ∧ (L3 E : Int) ≤ 3072) (hI : Inv M) (k : ∀ (K : M3), Inv K → G3 E YL Q 1935 [(0, vR 99 0), (1, vR 0 0), (2, vR 44 0), (3, vI i)] [] K) : G3 E YL Q 1594 [(0, vR 99 0), (1, vR 0 0), (2, vR 44 0), (3, vI i)] [] M := by
  refine g3_aload_n 1 dL_law_1594 rfl rfl (g3_aload_n 0 dL_law_1595 rfl rfl (g3_iload_n 3 dL_law_1596 rfl rfl (g3_iconst dL_law_1597 (g3_iadd dL_law_1598 (g3_sld hE dL_law_1599 (by omega) (g3_aload_n 0 dL_law_1600 rfl rfl (g3_iload_n 3 dL_law_1601 rfl rfl (g3_iconst dL_law_1602 (g3_iadd dL_law_1603 (g3_sld hE dL_law_1604 (by omega) (g3_cV2 dL_law_1605 myX11_judge mlL_189 (z3 rfl) ob_0 (z3 rfl) (z3 rfl) (c3_mono (p_judge hI (sx3_rg E _) (sx3_rg E _)) (fun v M1 _ h1 => ?_)))))))))))))
  obtain ⟨⟨x, rfl⟩, h2⟩ := h1
  show G3 E YL Q 1608 [(0, vR 99 0), (1, vR 0 0), (2, vR 44 0), (3, vI i)] [vI x] M1
  refine g3_aload_n 2 dL_law_1608 rfl rfl (g3_aload_n 0 dL_law_1609 rfl rfl (g3_iload_n 3 dL_law_1610 rfl rfl (g3_iconst dL_law_1611 (g3_iadd dL_law_1612 (g3_sld hE dL_law_1613 (by omega) (g3_aload_n 0 dL_law_1614 rfl rfl (g3_iload_n 3 dL_law_1615 rfl rfl (g3_iconst dL_law_1616 (g3_iadd dL_law_1617 (g3_sld hE dL_law_1618 (by omega) (g3_cV2 dL_law_1619 myX12_judge mlL_192 (z3 rfl) ob_44 (z3 rfl) (z3 rfl) (c3_mono h2 (fun v2 K _ h3 => ?_)))))))))))))
  obtain ⟨rfl, hK⟩ := h3
  show G3 E YL Q 1622 [(0, vR 99 0), (1, vR 0 0), (2, vR 44 0), (3, vI i)] [vI x, vI x] K
  exact g3_same (tgt := 1935) dL_law_1622 rfl (k K hK)
set_option maxRecDepth 20000 in
set_option maxHeartbeats 400000 in
theorem caL_best {E : E3} {Q : Q3} {M : M3} {i : Int} (hE : ad3 E 99 0 = b3 E) (hi : 0 ≤ i ∧ i + 5 < (L3 E : Int) ∧ (L3 E : Int) ≤ 3072) (hI : Inv M) (k : ∀ (K : M3), Inv K → G3 E YL Q 1935 [(0, vR 99 0), (1, vR 0 0), (2, vR 44 0), (3, vI i)] [] K) : G3 E YL Q 1627 [(0, vR 99 0), (1, vR 0 0), (2, vR 44 0), (3, vI i)] [] M := by
  refine g3_aload_n 1 dL_law_1627 rfl rfl (g3_aload_n 0 dL_law_1628 rfl rfl (g3_iload_n 3 dL_law_1629 rfl rfl (g3_iconst dL_law_1630 (g3_iadd dL_law_1631 (g3_sld hE dL_law_1632 (by omega) (g3_cV1 dL_law_1633 myX11_best mlL_193 (z3 rfl) ob_0 (z3 rfl) (z3 rfl) (c3_mono (p_best hI (sx3_rg E _)) (fun v M1 _ h1 => ?_))))))))
  obtain ⟨⟨x, rfl⟩, h2⟩ := h1
  show G3 E YL Q 1636 [(0, vR 99 0), (1, vR 0 0), (2, vR 44 0), (3, vI i)] [vI x] M1
  refine g3_aload_n 2 dL_law_1636 rfl rfl (g3_aload_n 0 dL_law_1637 rfl rfl (g3_iload_n 3 dL_law_1638 rfl rfl (g3_iconst dL_law_1639 (g3_iadd dL_law_1640 (g3_sld hE dL_law_1641 (by omega) (g3_cV1 dL_law_1642 myX12_best mlL_196 (z3 rfl) ob_44 (z3 rfl) (z3 rfl) (c3_mono h2 (fun v2 K _ h3 => ?_))))))))
  obtain ⟨rfl, hK⟩ := h3
  show G3 E YL Q 1645 [(0, vR 99 0), (1, vR 0 0), (2, vR 44 0), (3, vI i)] [vI x, vI x] K
  exact g3_same (tgt := 1935) dL_law_1645 rfl (k K hK)
set_option maxRecDepth 20000 in
set_option maxHeartbeats 400000 in
theorem caL_sheet {E : E3} {Q : Q3} {M : M3} {i : Int} (hE : ad3 E 99 0 = b3 E) (hi : 0 ≤ i ∧ i + 5 < (L3 E : Int) ∧ (L3 E : Int) ≤ 3072) (hI : Inv M) (k : ∀ (K : M3), Inv K → G3 E YL Q 1935 [(0, vR 99 0), (1, vR 0 0), (2, vR 44 0), (3, vI i)] [] K) : G3 E YL Q 1650 [(0, vR 99 0), (1, vR 0 0), (2, vR 44 0), (3, vI i)] [] M := by
  refine g3_aload_n 1 dL_law_1650 rfl rfl (g3_aload_n 0 dL_law_1651 rfl rfl (g3_iload_n 3 dL_law_1652 rfl rfl (g3_iconst dL_law_1653 (g3_iadd dL_law_1654 (g3_sld hE dL_law_1655 (by omega) (g3_aload_n 0 dL_law_1656 rfl rfl (g3_iload_n 3 dL_law_1657 rfl rfl (g3_iconst dL_law_1658 (g3_iadd dL_law_1659 (g3_sld hE dL_law_1660 (by omega) (g3_aload_n 0 dL_law_1661 rfl rfl (g3_iload_n 3 dL_law_1662 rfl rfl (g3_iconst dL_law_1663 (g3_iadd dL_law_1664 (g3_sld hE dL_law_1665 (by omega) (g3_cV3 dL_law_1666 myX11_sheet mlL_197 (z3 rfl) ob_0 (z3 rfl) (z3 rfl) (c3_mono (p_sheet hI (sx3_rg E _) (sx3_rg E _) (sx3_rg E _)) (fun v M1 _ h1 => ?_))))))))))))))))))
  obtain ⟨⟨x, rfl⟩, h2⟩ := h1
  show G3 E YL Q 1669 [(0, vR 99 0), (1, vR 0 0), (2, vR 44 0), (3, vI i)] [vI x] M1
  refine g3_aload_n 2 dL_law_1669 rfl rfl (g3_aload_n 0 dL_law_1670 rfl rfl (g3_iload_n 3 dL_law_1671 rfl rfl (g3_iconst dL_law_1672 (g3_iadd dL_law_1673 (g3_sld hE dL_law_1674 (by omega) (g3_aload_n 0 dL_law_1675 rfl rfl (g3_iload_n 3 dL_law_1676 rfl rfl (g3_iconst dL_law_1677 (g3_iadd dL_law_1678 (g3_sld hE dL_law_1679 (by omega) (g3_aload_n 0 dL_law_1680 rfl rfl (g3_iload_n 3 dL_law_1681 rfl rfl (g3_iconst dL_law_1682 (g3_iadd dL_law_1683 (g3_sld hE dL_law_1684 (by omega) (g3_cV3 dL_law_1685 myX12_sheet mlL_200 (z3 rfl) ob_44 (z3 rfl) (z3 rfl) (c3_mono h2 (fun v2 K _ h3 => ?_))))))))))))))))))
  obtain ⟨rfl, hK⟩ := h3
  show G3 E YL Q 1688 [(0, vR 99 0), (1, vR 0 0), (2, vR 44 0), (3, vI i)] [vI x, vI x] K
  exact g3_same (tgt := 1935) dL_law_1688 rfl (k K hK)
set_option maxRecDepth 20000 in
set_option maxHeartbeats 400000 in
theorem caL_lose {E : E3} {Q : Q3} {M : M3} {i : Int} (hE : ad3 E 99 0 = b3 E) (hi : 0 ≤ i ∧ i + 5 < (L3 E : Int) ∧ (L3 E : Int) ≤ 3072) (hI : Inv M) (k : ∀ (K : M3), Inv K → G3 E YL Q 1935 [(0, vR 99 0), (1, vR 0 0), (2, vR 44 0), (3, vI i)] [] K) : G3 E YL Q 1693 [(0, vR 99 0), (1, vR 0 0), (2, vR 44 0), (3, vI i)] [] M := by
  refine g3_aload_n 1 dL_law_1693 rfl rfl (g3_aload_n 0 dL_law_1694 rfl rfl (g3_iload_n 3 dL_law_1695 rfl rfl (g3_iconst dL_law_1696 (g3_iadd dL_law_1697 (g3_sld hE dL_law_1698 (by omega) (g3_cV1 dL_law_1699 myX11_lose mlL_201 (z3 rfl) ob_0 (z3 rfl) (z3 rfl) (c3_mono (p_lose hI (sx3_rg E _)) (fun v M1 _ h1 => ?_))))))))
  obtain ⟨⟨x, rfl⟩, h2⟩ := h1
  show G3 E YL Q 1702 [(0, vR 99 0), (1, vR 0 0), (2, vR 44 0), (3, vI i)] [vI x] M1
  refine g3_aload_n 2 dL_law_1702 rfl rfl (g3_aload_n 0 dL_law_1703 rfl rfl (g3_iload_n 3 dL_law_1704 rfl rfl (g3_iconst dL_law_1705 (g3_iadd dL_law_1706 (g3_sld hE dL_law_1707 (by omega) (g3_cV1 dL_law_1708 myX12_lose mlL_204 (z3 rfl) ob_44 (z3 rfl) (z3 rfl) (c3_mono h2 (fun v2 K _ h3 => ?_))))))))
  obtain ⟨rfl, hK⟩ := h3
  show G3 E YL Q 1711 [(0, vR 99 0), (1, vR 0 0), (2, vR 44 0), (3, vI i)] [vI x, vI x] K
  exact g3_same (tgt := 1935) dL_law_1711 rfl (k K hK)
set_option maxRecDepth 20000 in
set_option maxHeartbeats 400000 in
theorem caL_lay {E : E3} {Q : Q3} {M : M3} {i : Int} (hE : ad3 E 99 0 = b3 E) (hi : 0 ≤ i ∧ i + 5 < (L3 E : Int) ∧ (L3 E : Int) ≤ 3072) (hI : Inv M) (k : ∀ (K : M3), Inv K → G3 E YL Q 1935 [(0, vR 99 0), (1, vR 0 0), (2, vR 44 0), (3, vI i)] [] K) : G3 E YL Q 1716 [(0, vR 99 0), (1, vR 0 0), (2, vR 44 0), (3, vI i)] [] M := by
  refine g3_aload_n 1 dL_law_1716 rfl rfl (g3_aload_n 0 dL_law_1717 rfl rfl (g3_iload_n 3 dL_law_1718 rfl rfl (g3_iconst dL_law_1719 (g3_iadd dL_law_1720 (g3_sld hE dL_law_1721 (by omega) (g3_aload_n 0 dL_law_1722 rfl rfl (g3_iload_n 3 dL_law_1723 rfl rfl (g3_iconst dL_law_1724 (g3_iadd dL_law_1725 (g3_sld hE dL_law_1726 (by omega) (g3_aload_n 0 dL_law_1727 rfl rfl (g3_iload_n 3 dL_law_1728 rfl rfl (g3_iconst dL_law_1729 (g3_iadd dL_law_1730 (g3_sld hE dL_law_1731 (by omega) (g3_aload_n 0 dL_law_1732 rfl rfl (g3_iload_n 3 dL_law_1733 rfl rfl (g3_iconst dL_law_1734 (g3_iadd dL_law_1735 (g3_sld hE dL_law_1736 (by omega) (g3_cV4 dL_law_1737 myX11_lay mlL_205 (z3 rfl) ob_0 (z3 rfl) (z3 rfl) (c3_mono (p_lay hI (sx3_rg E _) (sx3_rg E _) (sx3_rg E _) (sx3_rg E _)) (fun v M1 _ h1 => ?_)))))))))))))))))))))))
  obtain ⟨⟨x, rfl⟩, h2⟩ := h1
  show G3 E YL Q 1740 [(0, vR 99 0), (1, vR 0 0), (2, vR 44 0), (3, vI i)] [vI x] M1
  refine g3_aload_n 2 dL_law_1740 rfl rfl (g3_aload_n 0 dL_law_1741 rfl rfl (g3_iload_n 3 dL_law_1742 rfl rfl (g3_iconst dL_law_1743 (g3_iadd dL_law_1744 (g3_sld hE dL_law_1745 (by omega) (g3_aload_n 0 dL_law_1746 rfl rfl (g3_iload_n 3 dL_law_1747 rfl rfl (g3_iconst dL_law_1748 (g3_iadd dL_law_1749 (g3_sld hE dL_law_1750 (by omega) (g3_aload_n 0 dL_law_1751 rfl rfl (g3_iload_n 3 dL_law_1752 rfl rfl (g3_iconst dL_law_1753 (g3_iadd dL_law_1754 (g3_sld hE dL_law_1755 (by omega) (g3_aload_n 0 dL_law_1756 rfl rfl (g3_iload_n 3 dL_law_1757 rfl rfl (g3_iconst dL_law_1758 (g3_iadd dL_law_1759 (g3_sld hE dL_law_1760 (by omega) (g3_cV4 dL_law_1761 myX12_lay mlL_208 (z3 rfl) ob_44 (z3 rfl) (z3 rfl) (c3_mono h2 (fun v2 K _ h3 => ?_)))))))))))))))))))))))
  obtain ⟨rfl, hK⟩ := h3
  show G3 E YL Q 1764 [(0, vR 99 0), (1, vR 0 0), (2, vR 44 0), (3, vI i)] [vI x, vI x] K
  exact g3_same (tgt := 1935) dL_law_1764 rfl (k K hK)
set_option maxRecDepth 20000 in
set_option maxHeartbeats 400000 in
theorem caL_get {E : E3} {Q : Q3} {M : M3} {i : Int} (hE : ad3 E 99 0 = b3 E) (hi : 0 ≤ i ∧ i + 5 < (L3 E : Int) ∧ (L3 E : Int) ≤ 3072) (hI : Inv M) (k : ∀ (K : M3), Inv K → G3 E YL Q 1935 [(0, vR 99 0), (1, vR 0 0), (2, vR 44 0), (3, vI i)] [] K) : G3 E YL Q 1769 [(0, vR 99 0), (1, vR 0 0), (2, vR 44 0), (3, vI i)] [] M := by
  refine g3_aload_n 1 dL_law_1769 rfl rfl (g3_aload_n 0 dL_law_1770 rfl rfl (g3_iload_n 3 dL_law_1771 rfl rfl (g3_iconst dL_law_1772 (g3_iadd dL_law_1773 (g3_sld hE dL_law_1774 (by omega) (g3_aload_n 0 dL_law_1775 rfl rfl (g3_iload_n 3 dL_law_1776 rfl rfl (g3_iconst dL_law_1777 (g3_iadd dL_law_1778 (g3_sld hE dL_law_1779 (by omega) (g3_aload_n 0 dL_law_1780 rfl rfl (g3_iload_n 3 dL_law_1781 rfl rfl (g3_iconst dL_law_1782 (g3_iadd dL_law_1783 (g3_sld hE dL_law_1784 (by omega) (g3_cV3 dL_law_1785 myX11_get mlL_209 (z3 rfl) ob_0 (z3 rfl) (z3 rfl) (c3_mono (p_get hI (sx3_rg E _) (sx3_rg E _) (sx3_rg E _)) (fun v M1 _ h1 => ?_))))))))))))))))))
  obtain ⟨⟨x, rfl⟩, h2⟩ := h1
  show G3 E YL Q 1788 [(0, vR 99 0), (1, vR 0 0), (2, vR 44 0), (3, vI i)] [vI x] M1
  refine g3_aload_n 2 dL_law_1788 rfl rfl (g3_aload_n 0 dL_law_1789 rfl rfl (g3_iload_n 3 dL_law_1790 rfl rfl (g3_iconst dL_law_1791 (g3_iadd dL_law_1792 (g3_sld hE dL_law_1793 (by omega) (g3_aload_n 0 dL_law_1794 rfl rfl (g3_iload_n 3 dL_law_1795 rfl rfl (g3_iconst dL_law_1796 (g3_iadd dL_law_1797 (g3_sld hE dL_law_1798 (by omega) (g3_aload_n 0 dL_law_1799 rfl rfl (g3_iload_n 3 dL_law_1800 rfl rfl (g3_iconst dL_law_1801 (g3_iadd dL_law_1802 (g3_sld hE dL_law_1803 (by omega) (g3_cV3 dL_law_1804 myX12_get mlL_212 (z3 rfl) ob_44 (z3 rfl) (z3 rfl) (c3_mono h2 (fun v2 K _ h3 => ?_))))))))))))))))))
  obtain ⟨rfl, hK⟩ := h3
  show G3 E YL Q 1807 [(0, vR 99 0), (1, vR 0 0), (2, vR 44 0), (3, vI i)] [vI x, vI x] K
  exact g3_same (tgt := 1935) dL_law_1807 rfl (k K hK)
set_option maxRecDepth 20000 in
set_option maxHeartbeats 400000 in
theorem caL_copy {E : E3} {Q : Q3} {M : M3} {i : Int} (hE : ad3 E 99 0 = b3 E) (hi : 0 ≤ i ∧ i + 5 < (L3 E : Int) ∧ (L3 E : Int) ≤ 3072) (hI : Inv M) (k : ∀ (K : M3), Inv K → G3 E YL Q 1935 [(0, vR 99 0), (1, vR 0 0), (2, vR 44 0), (3, vI i)] [] K) : G3 E YL Q 1812 [(0, vR 99 0), (1, vR 0 0), (2, vR 44 0), (3, vI i)] [] M := by
  refine g3_aload_n 1 dL_law_1812 rfl rfl (g3_aload_n 0 dL_law_1813 rfl rfl (g3_iload_n 3 dL_law_1814 rfl rfl (g3_iconst dL_law_1815 (g3_iadd dL_law_1816 (g3_sld hE dL_law_1817 (by omega) (g3_aload_n 0 dL_law_1818 rfl rfl (g3_iload_n 3 dL_law_1819 rfl rfl (g3_iconst dL_law_1820 (g3_iadd dL_law_1821 (g3_sld hE dL_law_1822 (by omega) (g3_aload_n 0 dL_law_1823 rfl rfl (g3_iload_n 3 dL_law_1824 rfl rfl (g3_iconst dL_law_1825 (g3_iadd dL_law_1826 (g3_sld hE dL_law_1827 (by omega) (g3_aload_n 0 dL_law_1828 rfl rfl (g3_iload_n 3 dL_law_1829 rfl rfl (g3_iconst dL_law_1830 (g3_iadd dL_law_1831 (g3_sld hE dL_law_1832 (by omega) (g3_aload_n 0 dL_law_1833 rfl rfl (g3_iload_n 3 dL_law_1834 rfl rfl (g3_iconst dL_law_1835 (g3_iadd dL_law_1836 (g3_sld hE dL_law_1837 (by omega) (g3_cV5 dL_law_1838 myX11_copy mlL_213 (z3 rfl) ob_0 (z3 rfl) (z3 rfl) (c3_mono (p_copy hI (sx3_rg E _) (sx3_rg E _) (sx3_rg E _) (sx3_rg E _) (sx3_rg E _)) (fun v M1 _ h1 => ?_))))))))))))))))))))))))))))
  obtain ⟨⟨x, rfl⟩, h2⟩ := h1
  show G3 E YL Q 1841 [(0, vR 99 0), (1, vR 0 0), (2, vR 44 0), (3, vI i)] [vI x] M1
  refine g3_aload_n 2 dL_law_1841 rfl rfl (g3_aload_n 0 dL_law_1842 rfl rfl (g3_iload_n 3 dL_law_1843 rfl rfl (g3_iconst dL_law_1844 (g3_iadd dL_law_1845 (g3_sld hE dL_law_1846 (by omega) (g3_aload_n 0 dL_law_1847 rfl rfl (g3_iload_n 3 dL_law_1848 rfl rfl (g3_iconst dL_law_1849 (g3_iadd dL_law_1850 (g3_sld hE dL_law_1851 (by omega) (g3_aload_n 0 dL_law_1852 rfl rfl (g3_iload_n 3 dL_law_1853 rfl rfl (g3_iconst dL_law_1854 (g3_iadd dL_law_1855 (g3_sld hE dL_law_1856 (by omega) (g3_aload_n 0 dL_law_1857 rfl rfl (g3_iload_n 3 dL_law_1858 rfl rfl (g3_iconst dL_law_1859 (g3_iadd dL_law_1860 (g3_sld hE dL_law_1861 (by omega) (g3_aload_n 0 dL_law_1862 rfl rfl (g3_iload_n 3 dL_law_1863 rfl rfl (g3_iconst dL_law_1864 (g3_iadd dL_law_1865 (g3_sld hE dL_law_1866 (by omega) (g3_cV5 dL_law_1867 myX12_copy mlL_216 (z3 rfl) ob_44 (z3 rfl) (z3 rfl) (c3_mono h2 (fun v2 K _ h3 => ?_))))))))))))))))))))))))))))
  obtain ⟨rfl, hK⟩ := h3
  show G3 E YL Q 1870 [(0, vR 99 0), (1, vR 0 0), (2, vR 44 0), (3, vI i)] [vI x, vI x] K
  exact g3_same (tgt := 1935) dL_law_1870 rfl (k K hK)
set_option maxRecDepth 20000 in
set_option maxHeartbeats 400000 in
theorem caL_write {E : E3} {Q : Q3} {M : M3} {i : Int} (hE : ad3 E 99 0 = b3 E) (hi : 0 ≤ i ∧ i + 5 < (L3 E : Int) ∧ (L3 E : Int) ≤ 3072) (hI : Inv M) (k : ∀ (K : M3), Inv K → G3 E YL Q 1935 [(0, vR 99 0), (1, vR 0 0), (2, vR 44 0), (3, vI i)] [] K) : G3 E YL Q 1875 [(0, vR 99 0), (1, vR 0 0), (2, vR 44 0), (3, vI i)] [] M := by
  refine g3_aload_n 1 dL_law_1875 rfl rfl (g3_aload_n 0 dL_law_1876 rfl rfl (g3_iload_n 3 dL_law_1877 rfl rfl (g3_iconst dL_law_1878 (g3_iadd dL_law_1879 (g3_sld hE dL_law_1880 (by omega) (g3_cV1 dL_law_1881 myX11_write mlL_217 (z3 rfl) ob_0 (z3 rfl) (z3 rfl) (c3_mono (p_write hI (sx3_rg E _)) (fun v M1 _ h1 => ?_))))))))
  obtain ⟨⟨x, rfl⟩, h2⟩ := h1
  show G3 E YL Q 1884 [(0, vR 99 0), (1, vR 0 0), (2, vR 44 0), (3, vI i)] [vI x] M1
  refine g3_aload_n 2 dL_law_1884 rfl rfl (g3_aload_n 0 dL_law_1885 rfl rfl (g3_iload_n 3 dL_law_1886 rfl rfl (g3_iconst dL_law_1887 (g3_iadd dL_law_1888 (g3_sld hE dL_law_1889 (by omega) (g3_cV1 dL_law_1890 myX12_write mlL_220 (z3 rfl) ob_44 (z3 rfl) (z3 rfl) (c3_mono h2 (fun v2 K _ h3 => ?_))))))))
  obtain ⟨rfl, hK⟩ := h3
  show G3 E YL Q 1893 [(0, vR 99 0), (1, vR 0 0), (2, vR 44 0), (3, vI i)] [vI x, vI x] K
  exact g3_same (tgt := 1935) dL_law_1893 rfl (k K hK)
set_option maxRecDepth 20000 in
set_option maxHeartbeats 400000 in
theorem caL_count {E : E3} {Q : Q3} {M : M3} {i : Int} (hE : ad3 E 99 0 = b3 E) (hi : 0 ≤ i ∧ i + 5 < (L3 E : Int) ∧ (L3 E : Int) ≤ 3072) (hI : Inv M) (k : ∀ (K : M3), Inv K → G3 E YL Q 1935 [(0, vR 99 0), (1, vR 0 0), (2, vR 44 0), (3, vI i)] [] K) : G3 E YL Q 1898 [(0, vR 99 0), (1, vR 0 0), (2, vR 44 0), (3, vI i)] [] M := by
  refine g3_aload_n 1 dL_law_1898 rfl rfl (g3_aload_n 0 dL_law_1899 rfl rfl (g3_iload_n 3 dL_law_1900 rfl rfl (g3_iconst dL_law_1901 (g3_iadd dL_law_1902 (g3_sld hE dL_law_1903 (by omega) (g3_cV1 dL_law_1904 myX11_count mlL_221 (z3 rfl) ob_0 (z3 rfl) (z3 rfl) (c3_mono (p_count hI (sx3_rg E _)) (fun v M1 _ h1 => ?_))))))))
  obtain ⟨⟨x, rfl⟩, h2⟩ := h1
  show G3 E YL Q 1907 [(0, vR 99 0), (1, vR 0 0), (2, vR 44 0), (3, vI i)] [vI x] M1
  refine g3_aload_n 2 dL_law_1907 rfl rfl (g3_aload_n 0 dL_law_1908 rfl rfl (g3_iload_n 3 dL_law_1909 rfl rfl (g3_iconst dL_law_1910 (g3_iadd dL_law_1911 (g3_sld hE dL_law_1912 (by omega) (g3_cV1 dL_law_1913 myX12_count mlL_224 (z3 rfl) ob_44 (z3 rfl) (z3 rfl) (c3_mono h2 (fun v2 K _ h3 => ?_))))))))
  obtain ⟨rfl, hK⟩ := h3
  show G3 E YL Q 1916 [(0, vR 99 0), (1, vR 0 0), (2, vR 44 0), (3, vI i)] [vI x, vI x] K
  exact g3_same (tgt := 1935) dL_law_1916 rfl (k K hK)
set_option maxRecDepth 20000 in
set_option maxHeartbeats 400000 in
theorem caL_digest {E : E3} {Q : Q3} {M : M3} {i : Int} (hE : ad3 E 99 0 = b3 E) (hi : 0 ≤ i ∧ i + 5 < (L3 E : Int) ∧ (L3 E : Int) ≤ 3072) (hI : Inv M) (k : ∀ (K : M3), Inv K → G3 E YL Q 1935 [(0, vR 99 0), (1, vR 0 0), (2, vR 44 0), (3, vI i)] [] K) : G3 E YL Q 1921 [(0, vR 99 0), (1, vR 0 0), (2, vR 44 0), (3, vI i)] [] M := by
  refine g3_aload_n 1 dL_law_1921 rfl rfl (g3_cV0 dL_law_1922 myX11_digest mlL_225 (z3 rfl) ob_0 (z3 rfl) (z3 rfl) (c3_mono (p_digest hI ) (fun v M1 _ h1 => ?_)))
  obtain ⟨⟨x, rfl⟩, h2⟩ := h1
  show G3 E YL Q 1925 [(0, vR 99 0), (1, vR 0 0), (2, vR 44 0), (3, vI i)] [vL x] M1
  refine g3_aload_n 2 dL_law_1925 rfl rfl (g3_cV0 dL_law_1926 myX12_digest mlL_229 (z3 rfl) ob_44 (z3 rfl) (z3 rfl) (c3_mono h2 (fun v2 K _ h3 => ?_)))
  obtain ⟨rfl, hK⟩ := h3
  show G3 E YL Q 1929 [(0, vR 99 0), (1, vR 0 0), (2, vR 44 0), (3, vI i)] [vL x, vL x] K
  exact g3_lcmp dL_law_1929 (g3_val (cmp3_self _) (g3_if_eq_T (tgt := 1935) dL_law_1930 rfl (z3 rfl) (k K hK)))
