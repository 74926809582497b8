/-! the law: cases -/
section LWC3
variable {p : Program} {l : Launch} {e : Env} {s : State} {m : MethodId} {below : List Frame} {meth : Method} {c : Code} {H : Heap} {locs : List Loc} {Q : State → Prop}
variable {ls : Array Slot} {D : va_G} {cI cB : ClassId} {kS vS : Nat → Nat} {x f : Nat} {q kq vq h g r : Nat → Nat} {b L : Nat} {xs : Nat → Int32} {i : Nat} {B : Int}
set_option maxHeartbeats 4000000 in
set_option maxRecDepth 100000 in
theorem lc_33 (C0 : lC p s m c b L xs D cI cB kS vS) (hi : i + 6 ≤ L) (hL : L ≤ 3072) (hB : B ≤ 40000) (hI : lwI D cI cB x f q kq vq h g r s B H locs) (hl : lv_has ls 4 [(0, .ref b), (1, .ref x), (2, .ref (r 0)), (3, .int (iI ((i : Nat) : Int)))])
    (kk : ∀ (H : Heap) (locs : List Loc), lwI D cI cB x f q kq vq h g r s (B + 61) H locs → W p l e room_1 s m #[Value.ref b] below meth c H locs 42 1349 Q (F0 m 1490 ls [])) : W p l e room_1 s m #[Value.ref b] below meth c H locs 42 1349 Q (F0 m 1210 ls []) := by
  obtain ⟨hx, hb, hml, hown, hts, hX0, hbl, hK, hX⟩ := C0
  have hbA : ¬ (fun q : Nat => s.heap.size ≤ q) b := Nat.not_le.mpr hbl
  obtain ⟨T, K, K2, ik, SB, SS, SN, tn, TB, F, V, jc, X, Y, j, hG, hG2, hE, hP, hD, hS⟩ := hI
  refine lv_aload_n hx hb dL_law_1210 rfl (lv_at hl 1 rfl) ?_
  refine lv_aload_n hx hb dL_law_1211 rfl (lv_at hl 0 rfl) ?_
  refine lv_iload_n hx hb dL_law_1212 rfl (lv_at hl 3 rfl) ?_
  refine x_iconst hx hb dL_law_1213 ?_
  refine x_iadd hx hb dL_law_1214 ?_
  refine x_sld hx hb hX0 hbl hbA hS (i + 1) (by omega) (by omega) hL dL_law_1215 ?_
  refine lv_aload_n hx hb dL_law_1216 rfl (lv_at hl 0 rfl) ?_
  refine lv_iload_n hx hb dL_law_1217 rfl (lv_at hl 3 rfl) ?_
  refine x_iconst hx hb dL_law_1218 ?_
  refine x_iadd hx hb dL_law_1219 ?_
  refine x_sld hx hb hX0 hbl hbA hS (i + 2) (by omega) (by omega) hL dL_law_1220 ?_
  refine lv_aload_n hx hb dL_law_1221 rfl (lv_at hl 0 rfl) ?_
  refine lv_iload_n hx hb dL_law_1222 rfl (lv_at hl 3 rfl) ?_
  refine x_iconst hx hb dL_law_1223 ?_
  refine x_iadd hx hb dL_law_1224 ?_
  refine x_sld hx hb hX0 hbl hbA hS (i + 3) (by omega) (by omega) hL dL_law_1225 ?_
  refine x_callV (As := [.int (iI (xI xs (i + 1))), .int (iI (xI xs (i + 2))), .int (iI (xI xs (i + 3)))]) (rest := []) ⟨hx, hb, hml, hown, hts⟩ (kX4_sheet x f q kq vq h g T K ik SB SS SN tn TB F V jc (xI xs (i + 1)) (xI xs (i + 2)) (xI xs (i + 3)) B hG hB (xI_r xs (i + 1)) (xI_r xs (i + 2)) (xI_r xs (i + 3))) (cwV 3 hts gL_law_X4_sheet rfl rfl rfl ykVX4_sheet ⟨Nat.le_of_ble_eq_true rfl, Nat.le_of_ble_eq_true rfl⟩) hP hK hD hS 0 3 rfl rfl lw_e1 [0, 1, 2, 3, 4, 5, 6, 7, 8, 9, 10, 11, 12, 13, 14, 15, 16, 17, 18, 19, 20, 21, 22, 23, 24, 25, 26, 27, 28, 29, 30, 31] lw_c1 lw_n1 (fun _ => lw_f1) (fun u => wC cI cB x f q kq vq h g u.1.2 u.2.1 u.2.2 ++ wM cI r (T, K2, ik, SB, SS, SN, tn, TB, F) X Y j) (fun _ => lw_q1) rfl hl.1 rfl (Nat.le_of_ble_eq_true rfl) dL_law_1226 ⟨Nat.le_of_ble_eq_true rfl, Nat.le_of_ble_eq_true rfl⟩ (fun u H locs hu hP hD hS => ?_)
  refine W.eq (g2 := F0 m 1229 ls [.int (iI u.1.1)]) rfl ?_
  refine lv_aload_n hx hb dL_law_1229 rfl (lv_at hl 2 rfl) ?_
  refine lv_aload_n hx hb dL_law_1230 rfl (lv_at hl 0 rfl) ?_
  refine lv_iload_n hx hb dL_law_1231 rfl (lv_at hl 3 rfl) ?_
  refine x_iconst hx hb dL_law_1232 ?_
  refine x_iadd hx hb dL_law_1233 ?_
  refine x_sld hx hb hX0 hbl hbA hS (i + 1) (by omega) (by omega) hL dL_law_1234 ?_
  refine lv_aload_n hx hb dL_law_1235 rfl (lv_at hl 0 rfl) ?_
  refine lv_iload_n hx hb dL_law_1236 rfl (lv_at hl 3 rfl) ?_
  refine x_iconst hx hb dL_law_1237 ?_
  refine x_iadd hx hb dL_law_1238 ?_
  refine x_sld hx hb hX0 hbl hbA hS (i + 2) (by omega) (by omega) hL dL_law_1239 ?_
  refine lv_aload_n hx hb dL_law_1240 rfl (lv_at hl 0 rfl) ?_
  refine lv_iload_n hx hb dL_law_1241 rfl (lv_at hl 3 rfl) ?_
  refine x_iconst hx hb dL_law_1242 ?_
  refine x_iadd hx hb dL_law_1243 ?_
  refine x_sld hx hb hX0 hbl hbA hS (i + 3) (by omega) (by omega) hL dL_law_1244 ?_
  refine x_callV (As := [.int (iI (xI xs (i + 1))), .int (iI (xI xs (i + 2))), .int (iI (xI xs (i + 3)))]) (rest := [.int (iI u.1.1)]) ⟨hx, hb, hml, hown, hts⟩ (kX5_sheet r T K2 ik SB SS SN tn TB F X Y j (xI xs (i + 1)) (xI xs (i + 2)) (xI xs (i + 3)) B hG2 hB (xI_r xs (i + 1)) (xI_r xs (i + 2)) (xI_r xs (i + 3))) (cwV 3 hts gL_law_X5_sheet rfl rfl rfl ykVX5_sheet ⟨Nat.le_of_ble_eq_true rfl, Nat.le_of_ble_eq_true rfl⟩) hP hK hD hS 32 4 rfl rfl lw_e2 [32, 33, 34, 35, 36, 37, 38, 39, 40, 41] lw_c2 lw_n2 (fun _ => lw_f2) (fun v => wC cI cB x f q kq vq h g u.1.2 u.2.1 u.2.2 ++ wM cI r v.1.2 v.2.1 v.2.2.1 v.2.2.2) (fun _ => lw_q2) rfl hl.1 rfl (Nat.le_of_ble_eq_true rfl) dL_law_1245 ⟨Nat.le_of_ble_eq_true rfl, Nat.le_of_ble_eq_true rfl⟩ (fun v H locs hv hP hD hS => ?_)
  refine W.eq (g2 := F0 m 1248 ls [.int (iI v.1.1), .int (iI u.1.1)]) rfl ?_
  have hE2 : eqK u.1 v.1 := by rw [show u.1 = _ from hu, show v.1 = _ from hv]; exact ek_sheet (xI xs (i + 1)) (xI xs (i + 2)) (xI xs (i + 3)) T K K2 ik SB SS SN tn TB F hE
  have hZ1 : GIp (B + 61) u.1 := by rw [show u.1 = _ from hu]; exact gi_sheet hG (xI_r xs (i + 1)) (xI_r xs (i + 2)) (xI_r xs (i + 3))
  have hZ2 : GIp (B + 61) v.1 := by rw [show v.1 = _ from hv]; exact gi_sheet hG2 (xI_r xs (i + 1)) (xI_r xs (i + 2)) (xI_r xs (i + 3))
  exact x_eqI (tgt := 1490) hx hb hE2.1 dL_law_1248 (by decide) (kk H locs (lwI_next hE2 hZ1 hZ2 hP hD hS))
set_option maxHeartbeats 4000000 in
set_option maxRecDepth 100000 in
theorem lc_34 (C0 : lC p s m c b L xs D cI cB kS vS) (hi : i + 6 ≤ L) (hL : L ≤ 3072) (hB : B ≤ 40000) (hI : lwI D cI cB x f q kq vq h g r s B H locs) (hl : lv_has ls 4 [(0, .ref b), (1, .ref x), (2, .ref (r 0)), (3, .int (iI ((i : Nat) : Int)))])
    (kk : ∀ (H : Heap) (locs : List Loc), lwI D cI cB x f q kq vq h g r s (B + 61) H locs → W p l e room_1 s m #[Value.ref b] below meth c H locs 42 1349 Q (F0 m 1490 ls [])) : W p l e room_1 s m #[Value.ref b] below meth c H locs 42 1349 Q (F0 m 1253 ls []) := by
  obtain ⟨hx, hb, hml, hown, hts, hX0, hbl, hK, hX⟩ := C0
  have hbA : ¬ (fun q : Nat => s.heap.size ≤ q) b := Nat.not_le.mpr hbl
  obtain ⟨T, K, K2, ik, SB, SS, SN, tn, TB, F, V, jc, X, Y, j, hG, hG2, hE, hP, hD, hS⟩ := hI
  refine lv_aload_n hx hb dL_law_1253 rfl (lv_at hl 1 rfl) ?_
  refine lv_aload_n hx hb dL_law_1254 rfl (lv_at hl 0 rfl) ?_
  refine lv_iload_n hx hb dL_law_1255 rfl (lv_at hl 3 rfl) ?_
  refine x_iconst hx hb dL_law_1256 ?_
  refine x_iadd hx hb dL_law_1257 ?_
  refine x_sld hx hb hX0 hbl hbA hS (i + 1) (by omega) (by omega) hL dL_law_1258 ?_
  refine lv_aload_n hx hb dL_law_1259 rfl (lv_at hl 0 rfl) ?_
  refine lv_iload_n hx hb dL_law_1260 rfl (lv_at hl 3 rfl) ?_
  refine x_iconst hx hb dL_law_1261 ?_
  refine x_iadd hx hb dL_law_1262 ?_
  refine x_sld hx hb hX0 hbl hbA hS (i + 2) (by omega) (by omega) hL dL_law_1263 ?_
  refine lv_aload_n hx hb dL_law_1264 rfl (lv_at hl 0 rfl) ?_
  refine lv_iload_n hx hb dL_law_1265 rfl (lv_at hl 3 rfl) ?_
  refine x_iconst hx hb dL_law_1266 ?_
  refine x_iadd hx hb dL_law_1267 ?_
  refine x_sld hx hb hX0 hbl hbA hS (i + 3) (by omega) (by omega) hL dL_law_1268 ?_
  refine x_callV (As := [.int (iI (xI xs (i + 1))), .int (iI (xI xs (i + 2))), .int (iI (xI xs (i + 3)))]) (rest := []) ⟨hx, hb, hml, hown, hts⟩ (kX4_write x f q kq vq h g T K ik SB SS SN tn TB F V jc (xI xs (i + 1)) (xI xs (i + 2)) (xI xs (i + 3)) B hG hB (xI_r xs (i + 1)) (xI_r xs (i + 2)) (xI_r xs (i + 3))) (cwV 3 hts gL_law_X4_write rfl rfl rfl ykVX4_write ⟨Nat.le_of_ble_eq_true rfl, Nat.le_of_ble_eq_true rfl⟩) hP hK hD hS 0 3 rfl rfl lw_e1 [0, 1, 2, 3, 4, 5, 6, 7, 8, 9, 10, 11, 12, 13, 14, 15, 16, 17, 18, 19, 20, 21, 22, 23, 24, 25, 26, 27, 28, 29, 30, 31] lw_c1 lw_n1 (fun _ => lw_f1) (fun u => wC cI cB x f q kq vq h g u.1.2 u.2.1 u.2.2 ++ wM cI r (T, K2, ik, SB, SS, SN, tn, TB, F) X Y j) (fun _ => lw_q1) rfl hl.1 rfl (Nat.le_of_ble_eq_true rfl) dL_law_1269 ⟨Nat.le_of_ble_eq_true rfl, Nat.le_of_ble_eq_true rfl⟩ (fun u H locs hu hP hD hS => ?_)
  refine W.eq (g2 := F0 m 1272 ls [.int (iI u.1.1)]) rfl ?_
  refine lv_aload_n hx hb dL_law_1272 rfl (lv_at hl 2 rfl) ?_
  refine lv_aload_n hx hb dL_law_1273 rfl (lv_at hl 0 rfl) ?_
  refine lv_iload_n hx hb dL_law_1274 rfl (lv_at hl 3 rfl) ?_
  refine x_iconst hx hb dL_law_1275 ?_
  refine x_iadd hx hb dL_law_1276 ?_
  refine x_sld hx hb hX0 hbl hbA hS (i + 1) (by omega) (by omega) hL dL_law_1277 ?_
  refine lv_aload_n hx hb dL_law_1278 rfl (lv_at hl 0 rfl) ?_
  refine lv_iload_n hx hb dL_law_1279 rfl (lv_at hl 3 rfl) ?_
  refine x_iconst hx hb dL_law_1280 ?_
  refine x_iadd hx hb dL_law_1281 ?_
  refine x_sld hx hb hX0 hbl hbA hS (i + 2) (by omega) (by omega) hL dL_law_1282 ?_
  refine lv_aload_n hx hb dL_law_1283 rfl (lv_at hl 0 rfl) ?_
  refine lv_iload_n hx hb dL_law_1284 rfl (lv_at hl 3 rfl) ?_
  refine x_iconst hx hb dL_law_1285 ?_
  refine x_iadd hx hb dL_law_1286 ?_
  refine x_sld hx hb hX0 hbl hbA hS (i + 3) (by omega) (by omega) hL dL_law_1287 ?_
  refine x_callV (As := [.int (iI (xI xs (i + 1))), .int (iI (xI xs (i + 2))), .int (iI (xI xs (i + 3)))]) (rest := [.int (iI u.1.1)]) ⟨hx, hb, hml, hown, hts⟩ (kX5_write r T K2 ik SB SS SN tn TB F X Y j (xI xs (i + 1)) (xI xs (i + 2)) (xI xs (i + 3)) B hG2 hB (xI_r xs (i + 1)) (xI_r xs (i + 2)) (xI_r xs (i + 3))) (cwV 3 hts gL_law_X5_write rfl rfl rfl ykVX5_write ⟨Nat.le_of_ble_eq_true rfl, Nat.le_of_ble_eq_true rfl⟩) hP hK hD hS 32 4 rfl rfl lw_e2 [32, 33, 34, 35, 36, 37, 38, 39, 40, 41] lw_c2 lw_n2 (fun _ => lw_f2) (fun v => wC cI cB x f q kq vq h g u.1.2 u.2.1 u.2.2 ++ wM cI r v.1.2 v.2.1 v.2.2.1 v.2.2.2) (fun _ => lw_q2) rfl hl.1 rfl (Nat.le_of_ble_eq_true rfl) dL_law_1288 ⟨Nat.le_of_ble_eq_true rfl, Nat.le_of_ble_eq_true rfl⟩ (fun v H locs hv hP hD hS => ?_)
  refine W.eq (g2 := F0 m 1291 ls [.int (iI v.1.1), .int (iI u.1.1)]) rfl ?_
  have hE2 : eqK u.1 v.1 := by rw [show u.1 = _ from hu, show v.1 = _ from hv]; exact ek_write (xI xs (i + 1)) (xI xs (i + 2)) (xI xs (i + 3)) T K K2 ik SB SS SN tn TB F hE
  have hZ1 : GIp (B + 61) u.1 := by rw [show u.1 = _ from hu]; exact gi_write hG (xI_r xs (i + 1)) (xI_r xs (i + 2)) (xI_r xs (i + 3))
  have hZ2 : GIp (B + 61) v.1 := by rw [show v.1 = _ from hv]; exact gi_write hG2 (xI_r xs (i + 1)) (xI_r xs (i + 2)) (xI_r xs (i + 3))
  exact x_eqI (tgt := 1490) hx hb hE2.1 dL_law_1291 (by decide) (kk H locs (lwI_next hE2 hZ1 hZ2 hP hD hS))
set_option maxHeartbeats 4000000 in
set_option maxRecDepth 100000 in
theorem lc_35 (C0 : lC p s m c b L xs D cI cB kS vS) (hi : i + 6 ≤ L) (hL : L ≤ 3072) (hB : B ≤ 40000) (hI : lwI D cI cB x f q kq vq h g r s B H locs) (hl : lv_has ls 4 [(0, .ref b), (1, .ref x), (2, .ref (r 0)), (3, .int (iI ((i : Nat) : Int)))])
    (kk : ∀ (H : Heap) (locs : List Loc), lwI D cI cB x f q kq vq h g r s (B + 61) H locs → W p l e room_1 s m #[Value.ref b] below meth c H locs 42 1349 Q (F0 m 1490 ls [])) : W p l e room_1 s m #[Value.ref b] below meth c H locs 42 1349 Q (F0 m 1296 ls []) := by
  obtain ⟨hx, hb, hml, hown, hts, hX0, hbl, hK, hX⟩ := C0
  have hbA : ¬ (fun q : Nat => s.heap.size ≤ q) b := Nat.not_le.mpr hbl
  obtain ⟨T, K, K2, ik, SB, SS, SN, tn, TB, F, V, jc, X, Y, j, hG, hG2, hE, hP, hD, hS⟩ := hI
  refine lv_aload_n hx hb dL_law_1296 rfl (lv_at hl 1 rfl) ?_
  refine lv_aload_n hx hb dL_law_1297 rfl (lv_at hl 0 rfl) ?_
  refine lv_iload_n hx hb dL_law_1298 rfl (lv_at hl 3 rfl) ?_
  refine x_iconst hx hb dL_law_1299 ?_
  refine x_iadd hx hb dL_law_1300 ?_
  refine x_sld hx hb hX0 hbl hbA hS (i + 1) (by omega) (by omega) hL dL_law_1301 ?_
  refine lv_aload_n hx hb dL_law_1302 rfl (lv_at hl 0 rfl) ?_
  refine lv_iload_n hx hb dL_law_1303 rfl (lv_at hl 3 rfl) ?_
  refine x_iconst hx hb dL_law_1304 ?_
  refine x_iadd hx hb dL_law_1305 ?_
  refine x_sld hx hb hX0 hbl hbA hS (i + 2) (by omega) (by omega) hL dL_law_1306 ?_
  refine lv_aload_n hx hb dL_law_1307 rfl (lv_at hl 0 rfl) ?_
  refine lv_iload_n hx hb dL_law_1308 rfl (lv_at hl 3 rfl) ?_
  refine x_iconst hx hb dL_law_1309 ?_
  refine x_iadd hx hb dL_law_1310 ?_
  refine x_sld hx hb hX0 hbl hbA hS (i + 3) (by omega) (by omega) hL dL_law_1311 ?_
  refine lv_aload_n hx hb dL_law_1312 rfl (lv_at hl 0 rfl) ?_
  refine lv_iload_n hx hb dL_law_1313 rfl (lv_at hl 3 rfl) ?_
  refine x_iconst hx hb dL_law_1314 ?_
  refine x_iadd hx hb dL_law_1315 ?_
  refine x_sld hx hb hX0 hbl hbA hS (i + 4) (by omega) (by omega) hL dL_law_1316 ?_
  refine lv_aload_n hx hb dL_law_1317 rfl (lv_at hl 0 rfl) ?_
  refine lv_iload_n hx hb dL_law_1318 rfl (lv_at hl 3 rfl) ?_
  refine x_iconst hx hb dL_law_1319 ?_
  refine x_iadd hx hb dL_law_1320 ?_
  refine x_sld hx hb hX0 hbl hbA hS (i + 5) (by omega) (by omega) hL dL_law_1321 ?_
  refine x_callV (As := [.int (iI (xI xs (i + 1))), .int (iI (xI xs (i + 2))), .int (iI (xI xs (i + 3))), .int (iI (xI xs (i + 4))), .int (iI (xI xs (i + 5)))]) (rest := []) ⟨hx, hb, hml, hown, hts⟩ (kX4_copy x f q kq vq h g T K ik SB SS SN tn TB F V jc (xI xs (i + 1)) (xI xs (i + 2)) (xI xs (i + 3)) (xI xs (i + 4)) (xI xs (i + 5)) B hG hB (xI_r xs (i + 1)) (xI_r xs (i + 2)) (xI_r xs (i + 3)) (xI_r xs (i + 4)) (xI_r xs (i + 5))) (cwV 5 hts gL_law_X4_copy rfl rfl rfl ykVX4_copy ⟨Nat.le_of_ble_eq_true rfl, Nat.le_of_ble_eq_true rfl⟩) hP hK hD hS 0 3 rfl rfl lw_e1 [0, 1, 2, 3, 4, 5, 6, 7, 8, 9, 10, 11, 12, 13, 14, 15, 16, 17, 18, 19, 20, 21, 22, 23, 24, 25, 26, 27, 28, 29, 30, 31] lw_c1 lw_n1 (fun _ => lw_f1) (fun u => wC cI cB x f q kq vq h g u.1.2 u.2.1 u.2.2 ++ wM cI r (T, K2, ik, SB, SS, SN, tn, TB, F) X Y j) (fun _ => lw_q1) rfl hl.1 rfl (Nat.le_of_ble_eq_true rfl) dL_law_1322 ⟨Nat.le_of_ble_eq_true rfl, Nat.le_of_ble_eq_true rfl⟩ (fun u H locs hu hP hD hS => ?_)
  refine W.eq (g2 := F0 m 1325 ls [.int (iI u.1.1)]) rfl ?_
  refine lv_aload_n hx hb dL_law_1325 rfl (lv_at hl 2 rfl) ?_
  refine lv_aload_n hx hb dL_law_1326 rfl (lv_at hl 0 rfl) ?_
  refine lv_iload_n hx hb dL_law_1327 rfl (lv_at hl 3 rfl) ?_
  refine x_iconst hx hb dL_law_1328 ?_
  refine x_iadd hx hb dL_law_1329 ?_
  refine x_sld hx hb hX0 hbl hbA hS (i + 1) (by omega) (by omega) hL dL_law_1330 ?_
  refine lv_aload_n hx hb dL_law_1331 rfl (lv_at hl 0 rfl) ?_
  refine lv_iload_n hx hb dL_law_1332 rfl (lv_at hl 3 rfl) ?_
  refine x_iconst hx hb dL_law_1333 ?_
  refine x_iadd hx hb dL_law_1334 ?_
  refine x_sld hx hb hX0 hbl hbA hS (i + 2) (by omega) (by omega) hL dL_law_1335 ?_
  refine lv_aload_n hx hb dL_law_1336 rfl (lv_at hl 0 rfl) ?_
  refine lv_iload_n hx hb dL_law_1337 rfl (lv_at hl 3 rfl) ?_
  refine x_iconst hx hb dL_law_1338 ?_
  refine x_iadd hx hb dL_law_1339 ?_
  refine x_sld hx hb hX0 hbl hbA hS (i + 3) (by omega) (by omega) hL dL_law_1340 ?_
  refine lv_aload_n hx hb dL_law_1341 rfl (lv_at hl 0 rfl) ?_
  refine lv_iload_n hx hb dL_law_1342 rfl (lv_at hl 3 rfl) ?_
  refine x_iconst hx hb dL_law_1343 ?_
  refine x_iadd hx hb dL_law_1344 ?_
  refine x_sld hx hb hX0 hbl hbA hS (i + 4) (by omega) (by omega) hL dL_law_1345 ?_
  refine lv_aload_n hx hb dL_law_1346 rfl (lv_at hl 0 rfl) ?_
  refine lv_iload_n hx hb dL_law_1347 rfl (lv_at hl 3 rfl) ?_
  refine x_iconst hx hb dL_law_1348 ?_
  refine x_iadd hx hb dL_law_1349 ?_
  refine x_sld hx hb hX0 hbl hbA hS (i + 5) (by omega) (by omega) hL dL_law_1350 ?_
  refine x_callV (As := [.int (iI (xI xs (i + 1))), .int (iI (xI xs (i + 2))), .int (iI (xI xs (i + 3))), .int (iI (xI xs (i + 4))), .int (iI (xI xs (i + 5)))]) (rest := [.int (iI u.1.1)]) ⟨hx, hb, hml, hown, hts⟩ (kX5_copy r T K2 ik SB SS SN tn TB F X Y j (xI xs (i + 1)) (xI xs (i + 2)) (xI xs (i + 3)) (xI xs (i + 4)) (xI xs (i + 5)) B hG2 hB (xI_r xs (i + 1)) (xI_r xs (i + 2)) (xI_r xs (i + 3)) (xI_r xs (i + 4)) (xI_r xs (i + 5))) (cwV 5 hts gL_law_X5_copy rfl rfl rfl ykVX5_copy ⟨Nat.le_of_ble_eq_true rfl, Nat.le_of_ble_eq_true rfl⟩) hP hK hD hS 32 4 rfl rfl lw_e2 [32, 33, 34, 35, 36, 37, 38, 39, 40, 41] lw_c2 lw_n2 (fun _ => lw_f2) (fun v => wC cI cB x f q kq vq h g u.1.2 u.2.1 u.2.2 ++ wM cI r v.1.2 v.2.1 v.2.2.1 v.2.2.2) (fun _ => lw_q2) rfl hl.1 rfl (Nat.le_of_ble_eq_true rfl) dL_law_1351 ⟨Nat.le_of_ble_eq_true rfl, Nat.le_of_ble_eq_true rfl⟩ (fun v H locs hv hP hD hS => ?_)
  refine W.eq (g2 := F0 m 1354 ls [.int (iI v.1.1), .int (iI u.1.1)]) rfl ?_
  have hE2 : eqK u.1 v.1 := by rw [show u.1 = _ from hu, show v.1 = _ from hv]; exact ek_copy (xI xs (i + 1)) (xI xs (i + 2)) (xI xs (i + 3)) (xI xs (i + 4)) (xI xs (i + 5)) T K K2 ik SB SS SN tn TB F hE
  have hZ1 : GIp (B + 61) u.1 := by rw [show u.1 = _ from hu]; exact gi_copy hG (xI_r xs (i + 1)) (xI_r xs (i + 2)) (xI_r xs (i + 3)) (xI_r xs (i + 4)) (xI_r xs (i + 5))
  have hZ2 : GIp (B + 61) v.1 := by rw [show v.1 = _ from hv]; exact gi_copy hG2 (xI_r xs (i + 1)) (xI_r xs (i + 2)) (xI_r xs (i + 3)) (xI_r xs (i + 4)) (xI_r xs (i + 5))
  exact x_eqI (tgt := 1490) hx hb hE2.1 dL_law_1354 (by decide) (kk H locs (lwI_next hE2 hZ1 hZ2 hP hD hS))
set_option maxHeartbeats 4000000 in
set_option maxRecDepth 100000 in
theorem lc_36 (C0 : lC p s m c b L xs D cI cB kS vS) (hi : i + 6 ≤ L) (hL : L ≤ 3072) (hB : B ≤ 40000) (hI : lwI D cI cB x f q kq vq h g r s B H locs) (hl : lv_has ls 4 [(0, .ref b), (1, .ref x), (2, .ref (r 0)), (3, .int (iI ((i : Nat) : Int)))])
    (kk : ∀ (H : Heap) (locs : List Loc), lwI D cI cB x f q kq vq h g r s (B + 61) H locs → W p l e room_1 s m #[Value.ref b] below meth c H locs 42 1349 Q (F0 m 1490 ls [])) : W p l e room_1 s m #[Value.ref b] below meth c H locs 42 1349 Q (F0 m 1359 ls []) := by
  obtain ⟨hx, hb, hml, hown, hts, hX0, hbl, hK, hX⟩ := C0
  have hbA : ¬ (fun q : Nat => s.heap.size ≤ q) b := Nat.not_le.mpr hbl
  obtain ⟨T, K, K2, ik, SB, SS, SN, tn, TB, F, V, jc, X, Y, j, hG, hG2, hE, hP, hD, hS⟩ := hI
  refine lv_aload_n hx hb dL_law_1359 rfl (lv_at hl 1 rfl) ?_
  refine lv_aload_n hx hb dL_law_1360 rfl (lv_at hl 0 rfl) ?_
  refine lv_iload_n hx hb dL_law_1361 rfl (lv_at hl 3 rfl) ?_
  refine x_iconst hx hb dL_law_1362 ?_
  refine x_iadd hx hb dL_law_1363 ?_
  refine x_sld hx hb hX0 hbl hbA hS (i + 1) (by omega) (by omega) hL dL_law_1364 ?_
  refine x_callV (As := [.int (iI (xI xs (i + 1)))]) (rest := []) ⟨hx, hb, hml, hown, hts⟩ (kX4_load x f q kq vq h g T K ik SB SS SN tn TB F V jc (xI xs (i + 1)) B hG hB (xI_r xs (i + 1))) (cwV 1 hts gL_law_X4_load rfl rfl rfl ykVX4_load ⟨Nat.le_of_ble_eq_true rfl, Nat.le_of_ble_eq_true rfl⟩) hP hK hD hS 0 3 rfl rfl lw_e1 [0, 1, 2, 3, 4, 5, 6, 7, 8, 9, 10, 11, 12, 13, 14, 15, 16, 17, 18, 19, 20, 21, 22, 23, 24, 25, 26, 27, 28, 29, 30, 31] lw_c1 lw_n1 (fun _ => lw_f1) (fun u => wC cI cB x f q kq vq h g u.1.2 u.2.1 u.2.2 ++ wM cI r (T, K2, ik, SB, SS, SN, tn, TB, F) X Y j) (fun _ => lw_q1) rfl hl.1 rfl (Nat.le_of_ble_eq_true rfl) dL_law_1365 ⟨Nat.le_of_ble_eq_true rfl, Nat.le_of_ble_eq_true rfl⟩ (fun u H locs hu hP hD hS => ?_)
  refine W.eq (g2 := F0 m 1368 ls [.int (iI u.1.1)]) rfl ?_
  refine lv_aload_n hx hb dL_law_1368 rfl (lv_at hl 2 rfl) ?_
  refine lv_aload_n hx hb dL_law_1369 rfl (lv_at hl 0 rfl) ?_
  refine lv_iload_n hx hb dL_law_1370 rfl (lv_at hl 3 rfl) ?_
  refine x_iconst hx hb dL_law_1371 ?_
  refine x_iadd hx hb dL_law_1372 ?_
  refine x_sld hx hb hX0 hbl hbA hS (i + 1) (by omega) (by omega) hL dL_law_1373 ?_
  refine x_callV (As := [.int (iI (xI xs (i + 1)))]) (rest := [.int (iI u.1.1)]) ⟨hx, hb, hml, hown, hts⟩ (kX5_load r T K2 ik SB SS SN tn TB F X Y j (xI xs (i + 1)) B hG2 hB (xI_r xs (i + 1))) (cwV 1 hts gL_law_X5_load rfl rfl rfl ykVX5_load ⟨Nat.le_of_ble_eq_true rfl, Nat.le_of_ble_eq_true rfl⟩) hP hK hD hS 32 4 rfl rfl lw_e2 [32, 33, 34, 35, 36, 37, 38, 39, 40, 41] lw_c2 lw_n2 (fun _ => lw_f2) (fun v => wC cI cB x f q kq vq h g u.1.2 u.2.1 u.2.2 ++ wM cI r v.1.2 v.2.1 v.2.2.1 v.2.2.2) (fun _ => lw_q2) rfl hl.1 rfl (Nat.le_of_ble_eq_true rfl) dL_law_1374 ⟨Nat.le_of_ble_eq_true rfl, Nat.le_of_ble_eq_true rfl⟩ (fun v H locs hv hP hD hS => ?_)
  refine W.eq (g2 := F0 m 1377 ls [.int (iI v.1.1), .int (iI u.1.1)]) rfl ?_
  have hE2 : eqK u.1 v.1 := by rw [show u.1 = _ from hu, show v.1 = _ from hv]; exact ek_load (xI xs (i + 1)) T K K2 ik SB SS SN tn TB F hE
  have hZ1 : GIp (B + 61) u.1 := by rw [show u.1 = _ from hu]; exact gi_load hG (xI_r xs (i + 1))
  have hZ2 : GIp (B + 61) v.1 := by rw [show v.1 = _ from hv]; exact gi_load hG2 (xI_r xs (i + 1))
  exact x_eqI (tgt := 1490) hx hb hE2.1 dL_law_1377 (by decide) (kk H locs (lwI_next hE2 hZ1 hZ2 hP hD hS))
set_option maxHeartbeats 4000000 in
set_option maxRecDepth 100000 in
theorem lc_37 (C0 : lC p s m c b L xs D cI cB kS vS) (hi : i + 6 ≤ L) (hL : L ≤ 3072) (hB : B ≤ 40000) (hI : lwI D cI cB x f q kq vq h g r s B H locs) (hl : lv_has ls 4 [(0, .ref b), (1, .ref x), (2, .ref (r 0)), (3, .int (iI ((i : Nat) : Int)))])
    (kk : ∀ (H : Heap) (locs : List Loc), lwI D cI cB x f q kq vq h g r s (B + 61) H locs → W p l e room_1 s m #[Value.ref b] below meth c H locs 42 1349 Q (F0 m 1490 ls [])) : W p l e room_1 s m #[Value.ref b] below meth c H locs 42 1349 Q (F0 m 1382 ls []) := by
  obtain ⟨hx, hb, hml, hown, hts, hX0, hbl, hK, hX⟩ := C0
  have hbA : ¬ (fun q : Nat => s.heap.size ≤ q) b := Nat.not_le.mpr hbl
  obtain ⟨T, K, K2, ik, SB, SS, SN, tn, TB, F, V, jc, X, Y, j, hG, hG2, hE, hP, hD, hS⟩ := hI
  refine lv_aload_n hx hb dL_law_1382 rfl (lv_at hl 1 rfl) ?_
  refine lv_aload_n hx hb dL_law_1383 rfl (lv_at hl 0 rfl) ?_
  refine lv_iload_n hx hb dL_law_1384 rfl (lv_at hl 3 rfl) ?_
  refine x_iconst hx hb dL_law_1385 ?_
  refine x_iadd hx hb dL_law_1386 ?_
  refine x_sld hx hb hX0 hbl hbA hS (i + 1) (by omega) (by omega) hL dL_law_1387 ?_
  refine x_callV (As := [.int (iI (xI xs (i + 1)))]) (rest := []) ⟨hx, hb, hml, hown, hts⟩ (kX4_judge x f q kq vq h g T K ik SB SS SN tn TB F V jc (xI xs (i + 1)) B hG hB (xI_r xs (i + 1))) (cwV 1 hts gL_law_X4_judge rfl rfl rfl ykVX4_judge ⟨Nat.le_of_ble_eq_true rfl, Nat.le_of_ble_eq_true rfl⟩) hP hK hD hS 0 3 rfl rfl lw_e1 [0, 1, 2, 3, 4, 5, 6, 7, 8, 9, 10, 11, 12, 13, 14, 15, 16, 17, 18, 19, 20, 21, 22, 23, 24, 25, 26, 27, 28, 29, 30, 31] lw_c1 lw_n1 (fun _ => lw_f1) (fun u => wC cI cB x f q kq vq h g u.1.2 u.2.1 u.2.2 ++ wM cI r (T, K2, ik, SB, SS, SN, tn, TB, F) X Y j) (fun _ => lw_q1) rfl hl.1 rfl (Nat.le_of_ble_eq_true rfl) dL_law_1388 ⟨Nat.le_of_ble_eq_true rfl, Nat.le_of_ble_eq_true rfl⟩ (fun u H locs hu hP hD hS => ?_)
  refine W.eq (g2 := F0 m 1391 ls [.int (iI u.1.1)]) rfl ?_
  refine lv_aload_n hx hb dL_law_1391 rfl (lv_at hl 2 rfl) ?_
  refine lv_aload_n hx hb dL_law_1392 rfl (lv_at hl 0 rfl) ?_
  refine lv_iload_n hx hb dL_law_1393 rfl (lv_at hl 3 rfl) ?_
  refine x_iconst hx hb dL_law_1394 ?_
  refine x_iadd hx hb dL_law_1395 ?_
  refine x_sld hx hb hX0 hbl hbA hS (i + 1) (by omega) (by omega) hL dL_law_1396 ?_
  refine x_callV (As := [.int (iI (xI xs (i + 1)))]) (rest := [.int (iI u.1.1)]) ⟨hx, hb, hml, hown, hts⟩ (kX5_judge r T K2 ik SB SS SN tn TB F X Y j (xI xs (i + 1)) B hG2 hB (xI_r xs (i + 1))) (cwV 1 hts gL_law_X5_judge rfl rfl rfl ykVX5_judge ⟨Nat.le_of_ble_eq_true rfl, Nat.le_of_ble_eq_true rfl⟩) hP hK hD hS 32 4 rfl rfl lw_e2 [32, 33, 34, 35, 36, 37, 38, 39, 40, 41] lw_c2 lw_n2 (fun _ => lw_f2) (fun v => wC cI cB x f q kq vq h g u.1.2 u.2.1 u.2.2 ++ wM cI r v.1.2 v.2.1 v.2.2.1 v.2.2.2) (fun _ => lw_q2) rfl hl.1 rfl (Nat.le_of_ble_eq_true rfl) dL_law_1397 ⟨Nat.le_of_ble_eq_true rfl, Nat.le_of_ble_eq_true rfl⟩ (fun v H locs hv hP hD hS => ?_)
  refine W.eq (g2 := F0 m 1400 ls [.int (iI v.1.1), .int (iI u.1.1)]) rfl ?_
  have hE2 : eqK u.1 v.1 := by rw [show u.1 = _ from hu, show v.1 = _ from hv]; exact ek_judge (xI xs (i + 1)) T K K2 ik SB SS SN tn TB F hE
  have hZ1 : GIp (B + 61) u.1 := by rw [show u.1 = _ from hu]; exact gi_judge hG (xI_r xs (i + 1))
  have hZ2 : GIp (B + 61) v.1 := by rw [show v.1 = _ from hv]; exact gi_judge hG2 (xI_r xs (i + 1))
  exact x_eqI (tgt := 1490) hx hb hE2.1 dL_law_1400 (by decide) (kk H locs (lwI_next hE2 hZ1 hZ2 hP hD hS))
set_option maxHeartbeats 4000000 in
set_option maxRecDepth 100000 in
theorem lc_38 (C0 : lC p s m c b L xs D cI cB kS vS) (hi : i + 6 ≤ L) (hL : L ≤ 3072) (hB : B ≤ 40000) (hI : lwI D cI cB x f q kq vq h g r s B H locs) (hl : lv_has ls 4 [(0, .ref b), (1, .ref x), (2, .ref (r 0)), (3, .int (iI ((i : Nat) : Int)))])
    (kk : ∀ (H : Heap) (locs : List Loc), lwI D cI cB x f q kq vq h g r s (B + 61) H locs → W p l e room_1 s m #[Value.ref b] below meth c H locs 42 1349 Q (F0 m 1490 ls [])) : W p l e room_1 s m #[Value.ref b] below meth c H locs 42 1349 Q (F0 m 1405 ls []) := by
  obtain ⟨hx, hb, hml, hown, hts, hX0, hbl, hK, hX⟩ := C0
  have hbA : ¬ (fun q : Nat => s.heap.size ≤ q) b := Nat.not_le.mpr hbl
  obtain ⟨T, K, K2, ik, SB, SS, SN, tn, TB, F, V, jc, X, Y, j, hG, hG2, hE, hP, hD, hS⟩ := hI
  refine lv_aload_n hx hb dL_law_1405 rfl (lv_at hl 1 rfl) ?_
  refine x_callV (As := []) (rest := []) ⟨hx, hb, hml, hown, hts⟩ (kX4_image x f q kq vq h g T K ik SB SS SN tn TB F V jc  B hG hB ) (cwV 0 hts gL_law_X4_image rfl rfl rfl ykVX4_image ⟨Nat.le_of_ble_eq_true rfl, Nat.le_of_ble_eq_true rfl⟩) hP hK hD hS 0 3 rfl rfl lw_e1 [0, 1, 2, 3, 4, 5, 6, 7, 8, 9, 10, 11, 12, 13, 14, 15, 16, 17, 18, 19, 20, 21, 22, 23, 24, 25, 26, 27, 28, 29, 30, 31] lw_c1 lw_n1 (fun _ => lw_f1) (fun u => wC cI cB x f q kq vq h g u.1.2 u.2.1 u.2.2 ++ wM cI r (T, K2, ik, SB, SS, SN, tn, TB, F) X Y j) (fun _ => lw_q1) rfl hl.1 rfl (Nat.le_of_ble_eq_true rfl) dL_law_1406 ⟨Nat.le_of_ble_eq_true rfl, Nat.le_of_ble_eq_true rfl⟩ (fun u H locs hu hP hD hS => ?_)
  refine W.eq (g2 := F0 m 1409 ls [.int (iI u.1.1)]) rfl ?_
  refine lv_aload_n hx hb dL_law_1409 rfl (lv_at hl 2 rfl) ?_
  refine x_callV (As := []) (rest := [.int (iI u.1.1)]) ⟨hx, hb, hml, hown, hts⟩ (kX5_image r T K2 ik SB SS SN tn TB F X Y j  B hG2 hB ) (cwV 0 hts gL_law_X5_image rfl rfl rfl ykVX5_image ⟨Nat.le_of_ble_eq_true rfl, Nat.le_of_ble_eq_true rfl⟩) hP hK hD hS 32 4 rfl rfl lw_e2 [32, 33, 34, 35, 36, 37, 38, 39, 40, 41] lw_c2 lw_n2 (fun _ => lw_f2) (fun v => wC cI cB x f q kq vq h g u.1.2 u.2.1 u.2.2 ++ wM cI r v.1.2 v.2.1 v.2.2.1 v.2.2.2) (fun _ => lw_q2) rfl hl.1 rfl (Nat.le_of_ble_eq_true rfl) dL_law_1410 ⟨Nat.le_of_ble_eq_true rfl, Nat.le_of_ble_eq_true rfl⟩ (fun v H locs hv hP hD hS => ?_)
  refine W.eq (g2 := F0 m 1413 ls [.int (iI v.1.1), .int (iI u.1.1)]) rfl ?_
  have hE2 : eqK u.1 v.1 := by rw [show u.1 = _ from hu, show v.1 = _ from hv]; exact ek_image  T K K2 ik SB SS SN tn TB F hE
  have hZ1 : GIp (B + 61) u.1 := by rw [show u.1 = _ from hu]; exact gi_image hG 
  have hZ2 : GIp (B + 61) v.1 := by rw [show v.1 = _ from hv]; exact gi_image hG2 
  exact x_eqI (tgt := 1490) hx hb hE2.1 dL_law_1413 (by decide) (kk H locs (lwI_next hE2 hZ1 hZ2 hP hD hS))
set_option maxHeartbeats 4000000 in
set_option maxRecDepth 100000 in
theorem lc_39 (C0 : lC p s m c b L xs D cI cB kS vS) (hi : i + 6 ≤ L) (hL : L ≤ 3072) (hB : B ≤ 40000) (hI : lwI D cI cB x f q kq vq h g r s B H locs) (hl : lv_has ls 4 [(0, .ref b), (1, .ref x), (2, .ref (r 0)), (3, .int (iI ((i : Nat) : Int)))])
    (kk : ∀ (H : Heap) (locs : List Loc), lwI D cI cB x f q kq vq h g r s (B + 61) H locs → W p l e room_1 s m #[Value.ref b] below meth c H locs 42 1349 Q (F0 m 1490 ls [])) : W p l e room_1 s m #[Value.ref b] below meth c H locs 42 1349 Q (F0 m 1418 ls []) := by
  obtain ⟨hx, hb, hml, hown, hts, hX0, hbl, hK, hX⟩ := C0
  have hbA : ¬ (fun q : Nat => s.heap.size ≤ q) b := Nat.not_le.mpr hbl
  obtain ⟨T, K, K2, ik, SB, SS, SN, tn, TB, F, V, jc, X, Y, j, hG, hG2, hE, hP, hD, hS⟩ := hI
  refine lv_aload_n hx hb dL_law_1418 rfl (lv_at hl 1 rfl) ?_
  refine x_callV (As := []) (rest := []) ⟨hx, hb, hml, hown, hts⟩ (kX4_undo x f q kq vq h g T K ik SB SS SN tn TB F V jc  B hG hB ) (cwV 0 hts gL_law_X4_undo rfl rfl rfl ykVX4_undo ⟨Nat.le_of_ble_eq_true rfl, Nat.le_of_ble_eq_true rfl⟩) hP hK hD hS 0 3 rfl rfl lw_e1 [0, 1, 2, 3, 4, 5, 6, 7, 8, 9, 10, 11, 12, 13, 14, 15, 16, 17, 18, 19, 20, 21, 22, 23, 24, 25, 26, 27, 28, 29, 30, 31] lw_c1 lw_n1 (fun _ => lw_f1) (fun u => wC cI cB x f q kq vq h g u.1.2 u.2.1 u.2.2 ++ wM cI r (T, K2, ik, SB, SS, SN, tn, TB, F) X Y j) (fun _ => lw_q1) rfl hl.1 rfl (Nat.le_of_ble_eq_true rfl) dL_law_1419 ⟨Nat.le_of_ble_eq_true rfl, Nat.le_of_ble_eq_true rfl⟩ (fun u H locs hu hP hD hS => ?_)
  refine W.eq (g2 := F0 m 1422 ls [.int (iI u.1.1)]) rfl ?_
  refine lv_aload_n hx hb dL_law_1422 rfl (lv_at hl 2 rfl) ?_
  refine x_callV (As := []) (rest := [.int (iI u.1.1)]) ⟨hx, hb, hml, hown, hts⟩ (kX5_undo r T K2 ik SB SS SN tn TB F X Y j  B hG2 hB ) (cwV 0 hts gL_law_X5_undo rfl rfl rfl ykVX5_undo ⟨Nat.le_of_ble_eq_true rfl, Nat.le_of_ble_eq_true rfl⟩) hP hK hD hS 32 4 rfl rfl lw_e2 [32, 33, 34, 35, 36, 37, 38, 39, 40, 41] lw_c2 lw_n2 (fun _ => lw_f2) (fun v => wC cI cB x f q kq vq h g u.1.2 u.2.1 u.2.2 ++ wM cI r v.1.2 v.2.1 v.2.2.1 v.2.2.2) (fun _ => lw_q2) rfl hl.1 rfl (Nat.le_of_ble_eq_true rfl) dL_law_1423 ⟨Nat.le_of_ble_eq_true rfl, Nat.le_of_ble_eq_true rfl⟩ (fun v H locs hv hP hD hS => ?_)
  refine W.eq (g2 := F0 m 1426 ls [.int (iI v.1.1), .int (iI u.1.1)]) rfl ?_
  have hE2 : eqK u.1 v.1 := by rw [show u.1 = _ from hu, show v.1 = _ from hv]; exact ek_undo  T K K2 ik SB SS SN tn TB F hE
  have hZ1 : GIp (B + 61) u.1 := by rw [show u.1 = _ from hu]; exact gi_undo hG 
  have hZ2 : GIp (B + 61) v.1 := by rw [show v.1 = _ from hv]; exact gi_undo hG2 
  exact x_eqI (tgt := 1490) hx hb hE2.1 dL_law_1426 (by decide) (kk H locs (lwI_next hE2 hZ1 hZ2 hP hD hS))
set_option maxHeartbeats 4000000 in
set_option maxRecDepth 100000 in
theorem lc_40 (C0 : lC p s m c b L xs D cI cB kS vS) (hi : i + 6 ≤ L) (hL : L ≤ 3072) (hB : B ≤ 40000) (hI : lwI D cI cB x f q kq vq h g r s B H locs) (hl : lv_has ls 4 [(0, .ref b), (1, .ref x), (2, .ref (r 0)), (3, .int (iI ((i : Nat) : Int)))])
    (kk : ∀ (H : Heap) (locs : List Loc), lwI D cI cB x f q kq vq h g r s (B + 61) H locs → W p l e room_1 s m #[Value.ref b] below meth c H locs 42 1349 Q (F0 m 1490 ls [])) : W p l e room_1 s m #[Value.ref b] below meth c H locs 42 1349 Q (F0 m 1431 ls []) := by
  obtain ⟨hx, hb, hml, hown, hts, hX0, hbl, hK, hX⟩ := C0
  have hbA : ¬ (fun q : Nat => s.heap.size ≤ q) b := Nat.not_le.mpr hbl
  obtain ⟨T, K, K2, ik, SB, SS, SN, tn, TB, F, V, jc, X, Y, j, hG, hG2, hE, hP, hD, hS⟩ := hI
  refine lv_aload_n hx hb dL_law_1431 rfl (lv_at hl 1 rfl) ?_
  refine x_callV (As := []) (rest := []) ⟨hx, hb, hml, hown, hts⟩ (kX4_tear x f q kq vq h g T K ik SB SS SN tn TB F V jc  B hG hB ) (cwV 0 hts gL_law_X4_tear rfl rfl rfl ykVX4_tear ⟨Nat.le_of_ble_eq_true rfl, Nat.le_of_ble_eq_true rfl⟩) hP hK hD hS 0 3 rfl rfl lw_e1 [0, 1, 2, 3, 4, 5, 6, 7, 8, 9, 10, 11, 12, 13, 14, 15, 16, 17, 18, 19, 20, 21, 22, 23, 24, 25, 26, 27, 28, 29, 30, 31] lw_c1 lw_n1 (fun _ => lw_f1) (fun u => wC cI cB x f q kq vq h g u.1.2 u.2.1 u.2.2 ++ wM cI r (T, K2, ik, SB, SS, SN, tn, TB, F) X Y j) (fun _ => lw_q1) rfl hl.1 rfl (Nat.le_of_ble_eq_true rfl) dL_law_1432 ⟨Nat.le_of_ble_eq_true rfl, Nat.le_of_ble_eq_true rfl⟩ (fun u H locs hu hP hD hS => ?_)
  refine W.eq (g2 := F0 m 1435 ls [.int (iI u.1.1)]) rfl ?_
  refine lv_aload_n hx hb dL_law_1435 rfl (lv_at hl 2 rfl) ?_
  refine x_callV (As := []) (rest := [.int (iI u.1.1)]) ⟨hx, hb, hml, hown, hts⟩ (kX5_tear r T K2 ik SB SS SN tn TB F X Y j  B hG2 hB ) (cwV 0 hts gL_law_X5_tear rfl rfl rfl ykVX5_tear ⟨Nat.le_of_ble_eq_true rfl, Nat.le_of_ble_eq_true rfl⟩) hP hK hD hS 32 4 rfl rfl lw_e2 [32, 33, 34, 35, 36, 37, 38, 39, 40, 41] lw_c2 lw_n2 (fun _ => lw_f2) (fun v => wC cI cB x f q kq vq h g u.1.2 u.2.1 u.2.2 ++ wM cI r v.1.2 v.2.1 v.2.2.1 v.2.2.2) (fun _ => lw_q2) rfl hl.1 rfl (Nat.le_of_ble_eq_true rfl) dL_law_1436 ⟨Nat.le_of_ble_eq_true rfl, Nat.le_of_ble_eq_true rfl⟩ (fun v H locs hv hP hD hS => ?_)
  refine W.eq (g2 := F0 m 1439 ls [.int (iI v.1.1), .int (iI u.1.1)]) rfl ?_
  have hE2 : eqK u.1 v.1 := by rw [show u.1 = _ from hu, show v.1 = _ from hv]; exact ek_tear  T K K2 ik SB SS SN tn TB F hE
  have hZ1 : GIp (B + 61) u.1 := by rw [show u.1 = _ from hu]; exact gi_tear hG 
  have hZ2 : GIp (B + 61) v.1 := by rw [show v.1 = _ from hv]; exact gi_tear hG2 
  exact x_eqI (tgt := 1490) hx hb hE2.1 dL_law_1439 (by decide) (kk H locs (lwI_next hE2 hZ1 hZ2 hP hD hS))
set_option maxHeartbeats 4000000 in
set_option maxRecDepth 100000 in
theorem lc_41 (C0 : lC p s m c b L xs D cI cB kS vS) (hi : i + 6 ≤ L) (hL : L ≤ 3072) (hB : B ≤ 40000) (hI : lwI D cI cB x f q kq vq h g r s B H locs) (hl : lv_has ls 4 [(0, .ref b), (1, .ref x), (2, .ref (r 0)), (3, .int (iI ((i : Nat) : Int)))])
    (kk : ∀ (H : Heap) (locs : List Loc), lwI D cI cB x f q kq vq h g r s (B + 61) H locs → W p l e room_1 s m #[Value.ref b] below meth c H locs 42 1349 Q (F0 m 1490 ls [])) : W p l e room_1 s m #[Value.ref b] below meth c H locs 42 1349 Q (F0 m 1444 ls []) := by
  obtain ⟨hx, hb, hml, hown, hts, hX0, hbl, hK, hX⟩ := C0
  have hbA : ¬ (fun q : Nat => s.heap.size ≤ q) b := Nat.not_le.mpr hbl
  obtain ⟨T, K, K2, ik, SB, SS, SN, tn, TB, F, V, jc, X, Y, j, hG, hG2, hE, hP, hD, hS⟩ := hI
  refine lv_aload_n hx hb dL_law_1444 rfl (lv_at hl 1 rfl) ?_
  refine lv_aload_n hx hb dL_law_1445 rfl (lv_at hl 0 rfl) ?_
  refine lv_iload_n hx hb dL_law_1446 rfl (lv_at hl 3 rfl) ?_
  refine x_iconst hx hb dL_law_1447 ?_
  refine x_iadd hx hb dL_law_1448 ?_
  refine x_sld hx hb hX0 hbl hbA hS (i + 1) (by omega) (by omega) hL dL_law_1449 ?_
  refine x_callV (As := [.int (iI (xI xs (i + 1)))]) (rest := []) ⟨hx, hb, hml, hown, hts⟩ (kX4_count x f q kq vq h g T K ik SB SS SN tn TB F V jc (xI xs (i + 1)) B hG hB (xI_r xs (i + 1))) (cwV 1 hts gL_law_X4_count rfl rfl rfl ykVX4_count ⟨Nat.le_of_ble_eq_true rfl, Nat.le_of_ble_eq_true rfl⟩) hP hK hD hS 0 3 rfl rfl lw_e1 [0, 1, 2, 3, 4, 5, 6, 7, 8, 9, 10, 11, 12, 13, 14, 15, 16, 17, 18, 19, 20, 21, 22, 23, 24, 25, 26, 27, 28, 29, 30, 31] lw_c1 lw_n1 (fun _ => lw_f1) (fun u => wC cI cB x f q kq vq h g u.1.2 u.2.1 u.2.2 ++ wM cI r (T, K2, ik, SB, SS, SN, tn, TB, F) X Y j) (fun _ => lw_q1) rfl hl.1 rfl (Nat.le_of_ble_eq_true rfl) dL_law_1450 ⟨Nat.le_of_ble_eq_true rfl, Nat.le_of_ble_eq_true rfl⟩ (fun u H locs hu hP hD hS => ?_)
  refine W.eq (g2 := F0 m 1453 ls [.int (iI u.1.1)]) rfl ?_
  refine lv_aload_n hx hb dL_law_1453 rfl (lv_at hl 2 rfl) ?_
  refine lv_aload_n hx hb dL_law_1454 rfl (lv_at hl 0 rfl) ?_
  refine lv_iload_n hx hb dL_law_1455 rfl (lv_at hl 3 rfl) ?_
  refine x_iconst hx hb dL_law_1456 ?_
  refine x_iadd hx hb dL_law_1457 ?_
  refine x_sld hx hb hX0 hbl hbA hS (i + 1) (by omega) (by omega) hL dL_law_1458 ?_
  refine x_callV (As := [.int (iI (xI xs (i + 1)))]) (rest := [.int (iI u.1.1)]) ⟨hx, hb, hml, hown, hts⟩ (kX5_count r T K2 ik SB SS SN tn TB F X Y j (xI xs (i + 1)) B hG2 hB (xI_r xs (i + 1))) (cwV 1 hts gL_law_X5_count rfl rfl rfl ykVX5_count ⟨Nat.le_of_ble_eq_true rfl, Nat.le_of_ble_eq_true rfl⟩) hP hK hD hS 32 4 rfl rfl lw_e2 [32, 33, 34, 35, 36, 37, 38, 39, 40, 41] lw_c2 lw_n2 (fun _ => lw_f2) (fun v => wC cI cB x f q kq vq h g u.1.2 u.2.1 u.2.2 ++ wM cI r v.1.2 v.2.1 v.2.2.1 v.2.2.2) (fun _ => lw_q2) rfl hl.1 rfl (Nat.le_of_ble_eq_true rfl) dL_law_1459 ⟨Nat.le_of_ble_eq_true rfl, Nat.le_of_ble_eq_true rfl⟩ (fun v H locs hv hP hD hS => ?_)
  refine W.eq (g2 := F0 m 1462 ls [.int (iI v.1.1), .int (iI u.1.1)]) rfl ?_
  have hE2 : eqK u.1 v.1 := by rw [show u.1 = _ from hu, show v.1 = _ from hv]; exact ek_count (xI xs (i + 1)) T K K2 ik SB SS SN tn TB F hE
  have hZ1 : GIp (B + 61) u.1 := by rw [show u.1 = _ from hu]; exact gi_count hG (xI_r xs (i + 1))
  have hZ2 : GIp (B + 61) v.1 := by rw [show v.1 = _ from hv]; exact gi_count hG2 (xI_r xs (i + 1))
  exact x_eqI (tgt := 1490) hx hb hE2.1 dL_law_1462 (by decide) (kk H locs (lwI_next hE2 hZ1 hZ2 hP hD hS))
set_option maxHeartbeats 4000000 in
set_option maxRecDepth 100000 in
theorem lc_42 (C0 : lC p s m c b L xs D cI cB kS vS) (hi : i + 6 ≤ L) (hL : L ≤ 3072) (hB : B ≤ 40000) (hI : lwI D cI cB x f q kq vq h g r s B H locs) (hl : lv_has ls 4 [(0, .ref b), (1, .ref x), (2, .ref (r 0)), (3, .int (iI ((i : Nat) : Int)))])
    (kk : ∀ (H : Heap) (locs : List Loc), lwI D cI cB x f q kq vq h g r s (B + 61) H locs → W p l e room_1 s m #[Value.ref b] below meth c H locs 42 1349 Q (F0 m 1490 ls [])) : W p l e room_1 s m #[Value.ref b] below meth c H locs 42 1349 Q (F0 m 1467 ls []) := by
  obtain ⟨hx, hb, hml, hown, hts, hX0, hbl, hK, hX⟩ := C0
  have hbA : ¬ (fun q : Nat => s.heap.size ≤ q) b := Nat.not_le.mpr hbl
  obtain ⟨T, K, K2, ik, SB, SS, SN, tn, TB, F, V, jc, X, Y, j, hG, hG2, hE, hP, hD, hS⟩ := hI
  refine lv_aload_n hx hb dL_law_1467 rfl (lv_at hl 1 rfl) ?_
  refine lv_aload_n hx hb dL_law_1468 rfl (lv_at hl 0 rfl) ?_
  refine lv_iload_n hx hb dL_law_1469 rfl (lv_at hl 3 rfl) ?_
  refine x_iconst hx hb dL_law_1470 ?_
  refine x_iadd hx hb dL_law_1471 ?_
  refine x_sld hx hb hX0 hbl hbA hS (i + 1) (by omega) (by omega) hL dL_law_1472 ?_
  refine x_callV (As := [.int (iI (xI xs (i + 1)))]) (rest := []) ⟨hx, hb, hml, hown, hts⟩ (kX4_status x f q kq vq h g T K ik SB SS SN tn TB F V jc (xI xs (i + 1)) B hG hB (xI_r xs (i + 1))) (cwV 1 hts gL_law_X4_status rfl rfl rfl ykVX4_status ⟨Nat.le_of_ble_eq_true rfl, Nat.le_of_ble_eq_true rfl⟩) hP hK hD hS 0 3 rfl rfl lw_e1 [0, 1, 2, 3, 4, 5, 6, 7, 8, 9, 10, 11, 12, 13, 14, 15, 16, 17, 18, 19, 20, 21, 22, 23, 24, 25, 26, 27, 28, 29, 30, 31] lw_c1 lw_n1 (fun _ => lw_f1) (fun u => wC cI cB x f q kq vq h g u.1.2 u.2.1 u.2.2 ++ wM cI r (T, K2, ik, SB, SS, SN, tn, TB, F) X Y j) (fun _ => lw_q1) rfl hl.1 rfl (Nat.le_of_ble_eq_true rfl) dL_law_1473 ⟨Nat.le_of_ble_eq_true rfl, Nat.le_of_ble_eq_true rfl⟩ (fun u H locs hu hP hD hS => ?_)
  refine W.eq (g2 := F0 m 1476 ls [.int (iI u.1.1)]) rfl ?_
  refine lv_aload_n hx hb dL_law_1476 rfl (lv_at hl 2 rfl) ?_
  refine lv_aload_n hx hb dL_law_1477 rfl (lv_at hl 0 rfl) ?_
  refine lv_iload_n hx hb dL_law_1478 rfl (lv_at hl 3 rfl) ?_
  refine x_iconst hx hb dL_law_1479 ?_
  refine x_iadd hx hb dL_law_1480 ?_
  refine x_sld hx hb hX0 hbl hbA hS (i + 1) (by omega) (by omega) hL dL_law_1481 ?_
  refine x_callV (As := [.int (iI (xI xs (i + 1)))]) (rest := [.int (iI u.1.1)]) ⟨hx, hb, hml, hown, hts⟩ (kX5_status r T K2 ik SB SS SN tn TB F X Y j (xI xs (i + 1)) B hG2 hB (xI_r xs (i + 1))) (cwV 1 hts gL_law_X5_status rfl rfl rfl ykVX5_status ⟨Nat.le_of_ble_eq_true rfl, Nat.le_of_ble_eq_true rfl⟩) hP hK hD hS 32 4 rfl rfl lw_e2 [32, 33, 34, 35, 36, 37, 38, 39, 40, 41] lw_c2 lw_n2 (fun _ => lw_f2) (fun v => wC cI cB x f q kq vq h g u.1.2 u.2.1 u.2.2 ++ wM cI r v.1.2 v.2.1 v.2.2.1 v.2.2.2) (fun _ => lw_q2) rfl hl.1 rfl (Nat.le_of_ble_eq_true rfl) dL_law_1482 ⟨Nat.le_of_ble_eq_true rfl, Nat.le_of_ble_eq_true rfl⟩ (fun v H locs hv hP hD hS => ?_)
  refine W.eq (g2 := F0 m 1485 ls [.int (iI v.1.1), .int (iI u.1.1)]) rfl ?_
  have hE2 : eqK u.1 v.1 := by rw [show u.1 = _ from hu, show v.1 = _ from hv]; exact ek_status (xI xs (i + 1)) T K K2 ik SB SS SN tn TB F hE
  have hZ1 : GIp (B + 61) u.1 := by rw [show u.1 = _ from hu]; exact gi_status hG (xI_r xs (i + 1))
  have hZ2 : GIp (B + 61) v.1 := by rw [show v.1 = _ from hv]; exact gi_status hG2 (xI_r xs (i + 1))
  exact x_eqI (tgt := 1490) hx hb hE2.1 dL_law_1485 (by decide) (kk H locs (lwI_next hE2 hZ1 hZ2 hP hD hS))
end LWC3
