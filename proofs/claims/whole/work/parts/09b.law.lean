/-! the law: cases -/
section LWC0
variable {p : Program} {l : Launch} {e : Env} {s : State} {m : MethodId} {below : List Frame} {meth : Method} {c : Code} {H : Heap} {locs : List Loc} {Q : State → Prop}
variable {ls : Array Slot} {D : va_G} {cI cB : ClassId} {kS vS : Nat → Nat} {x f : Nat} {q kq vq h g r : Nat → Nat} {b L : Nat} {xs : Nat → Int32} {i : Nat} {B : Int}
set_option maxHeartbeats 4000000 in
set_option maxRecDepth 100000 in
theorem lc_0 (C0 : lC p s m c b L xs D cI cB kS vS) (hi : i + 6 ≤ L) (hL : L ≤ 3072) (hB : B ≤ 40000) (hI : lwI D cI cB x f q kq vq h g r s B H locs) (hl : lv_has ls 4 [(0, .ref b), (1, .ref x), (2, .ref (r 0)), (3, .int (iI ((i : Nat) : Int)))])
    (kk : ∀ (H : Heap) (locs : List Loc), lwI D cI cB x f q kq vq h g r s (B + 61) H locs → W p l e room_1 s m #[Value.ref b] below meth c H locs 42 1349 Q (F0 m 1490 ls [])) : W p l e room_1 s m #[Value.ref b] below meth c H locs 42 1349 Q (F0 m 220 ls []) := by
  obtain ⟨hx, hb, hml, hown, hts, hX0, hbl, hK, hX⟩ := C0
  have hbA : ¬ (fun q : Nat => s.heap.size ≤ q) b := Nat.not_le.mpr hbl
  obtain ⟨T, K, K2, ik, SB, SS, SN, tn, TB, F, V, jc, X, Y, j, hG, hG2, hE, hP, hD, hS⟩ := hI
  refine lv_aload_n hx hb dL_law_220 rfl (lv_at hl 1 rfl) ?_
  refine lv_aload_n hx hb dL_law_221 rfl (lv_at hl 0 rfl) ?_
  refine lv_iload_n hx hb dL_law_222 rfl (lv_at hl 3 rfl) ?_
  refine x_iconst hx hb dL_law_223 ?_
  refine x_iadd hx hb dL_law_224 ?_
  refine x_sld hx hb hX0 hbl hbA hS (i + 1) (by omega) (by omega) hL dL_law_225 ?_
  refine x_callV (As := [.int (iI (xI xs (i + 1)))]) (rest := []) ⟨hx, hb, hml, hown, hts⟩ (kX4_vinegar x f q kq vq h g T K ik SB SS SN tn TB F V jc (xI xs (i + 1)) B hG hB (xI_r xs (i + 1))) (cwV 1 hts gL_law_X4_vinegar rfl rfl rfl ykVX4_vinegar ⟨Nat.le_of_ble_eq_true rfl, Nat.le_of_ble_eq_true rfl⟩) hP hK hD hS 0 3 rfl rfl lw_e1 [0, 1, 2, 3, 4, 5, 6, 7, 8, 9, 10, 11, 12, 13, 14, 15, 16, 17, 18, 19, 20, 21, 22, 23, 24, 25, 26, 27, 28, 29, 30, 31] lw_c1 lw_n1 (fun _ => lw_f1) (fun u => wC cI cB x f q kq vq h g u.1.2 u.2.1 u.2.2 ++ wM cI r (T, K2, ik, SB, SS, SN, tn, TB, F) X Y j) (fun _ => lw_q1) rfl hl.1 rfl (Nat.le_of_ble_eq_true rfl) dL_law_226 ⟨Nat.le_of_ble_eq_true rfl, Nat.le_of_ble_eq_true rfl⟩ (fun u H locs hu hP hD hS => ?_)
  refine W.eq (g2 := F0 m 229 ls [.int (iI u.1.1)]) rfl ?_
  refine lv_aload_n hx hb dL_law_229 rfl (lv_at hl 2 rfl) ?_
  refine lv_aload_n hx hb dL_law_230 rfl (lv_at hl 0 rfl) ?_
  refine lv_iload_n hx hb dL_law_231 rfl (lv_at hl 3 rfl) ?_
  refine x_iconst hx hb dL_law_232 ?_
  refine x_iadd hx hb dL_law_233 ?_
  refine x_sld hx hb hX0 hbl hbA hS (i + 1) (by omega) (by omega) hL dL_law_234 ?_
  refine x_callV (As := [.int (iI (xI xs (i + 1)))]) (rest := [.int (iI u.1.1)]) ⟨hx, hb, hml, hown, hts⟩ (kX5_vinegar r T K2 ik SB SS SN tn TB F X Y j (xI xs (i + 1)) B hG2 hB (xI_r xs (i + 1))) (cwV 1 hts gL_law_X5_vinegar rfl rfl rfl ykVX5_vinegar ⟨Nat.le_of_ble_eq_true rfl, Nat.le_of_ble_eq_true rfl⟩) hP hK hD hS 32 4 rfl rfl lw_e2 [32, 33, 34, 35, 36, 37, 38, 39, 40, 41] lw_c2 lw_n2 (fun _ => lw_f2) (fun v => wC cI cB x f q kq vq h g u.1.2 u.2.1 u.2.2 ++ wM cI r v.1.2 v.2.1 v.2.2.1 v.2.2.2) (fun _ => lw_q2) rfl hl.1 rfl (Nat.le_of_ble_eq_true rfl) dL_law_235 ⟨Nat.le_of_ble_eq_true rfl, Nat.le_of_ble_eq_true rfl⟩ (fun v H locs hv hP hD hS => ?_)
  refine W.eq (g2 := F0 m 238 ls [.int (iI v.1.1), .int (iI u.1.1)]) rfl ?_
  have hE2 : eqK u.1 v.1 := by rw [show u.1 = _ from hu, show v.1 = _ from hv]; exact ek_vinegar (xI xs (i + 1)) T K K2 ik SB SS SN tn TB F hE
  have hZ1 : GIp (B + 61) u.1 := by rw [show u.1 = _ from hu]; exact gi_vinegar hG (xI_r xs (i + 1))
  have hZ2 : GIp (B + 61) v.1 := by rw [show v.1 = _ from hv]; exact gi_vinegar hG2 (xI_r xs (i + 1))
  exact x_eqI (tgt := 1490) hx hb hE2.1 dL_law_238 (by decide) (kk H locs (lwI_next hE2 hZ1 hZ2 hP hD hS))
set_option maxHeartbeats 4000000 in
set_option maxRecDepth 100000 in
theorem lc_1 (C0 : lC p s m c b L xs D cI cB kS vS) (hi : i + 6 ≤ L) (hL : L ≤ 3072) (hB : B ≤ 40000) (hI : lwI D cI cB x f q kq vq h g r s B H locs) (hl : lv_has ls 4 [(0, .ref b), (1, .ref x), (2, .ref (r 0)), (3, .int (iI ((i : Nat) : Int)))])
    (kk : ∀ (H : Heap) (locs : List Loc), lwI D cI cB x f q kq vq h g r s (B + 61) H locs → W p l e room_1 s m #[Value.ref b] below meth c H locs 42 1349 Q (F0 m 1490 ls [])) : W p l e room_1 s m #[Value.ref b] below meth c H locs 42 1349 Q (F0 m 243 ls []) := by
  obtain ⟨hx, hb, hml, hown, hts, hX0, hbl, hK, hX⟩ := C0
  have hbA : ¬ (fun q : Nat => s.heap.size ≤ q) b := Nat.not_le.mpr hbl
  obtain ⟨T, K, K2, ik, SB, SS, SN, tn, TB, F, V, jc, X, Y, j, hG, hG2, hE, hP, hD, hS⟩ := hI
  refine lv_aload_n hx hb dL_law_243 rfl (lv_at hl 1 rfl) ?_
  refine lv_aload_n hx hb dL_law_244 rfl (lv_at hl 0 rfl) ?_
  refine lv_iload_n hx hb dL_law_245 rfl (lv_at hl 3 rfl) ?_
  refine x_iconst hx hb dL_law_246 ?_
  refine x_iadd hx hb dL_law_247 ?_
  refine x_sld hx hb hX0 hbl hbA hS (i + 1) (by omega) (by omega) hL dL_law_248 ?_
  refine lv_aload_n hx hb dL_law_249 rfl (lv_at hl 0 rfl) ?_
  refine lv_iload_n hx hb dL_law_250 rfl (lv_at hl 3 rfl) ?_
  refine x_iconst hx hb dL_law_251 ?_
  refine x_iadd hx hb dL_law_252 ?_
  refine x_sld hx hb hX0 hbl hbA hS (i + 2) (by omega) (by omega) hL dL_law_253 ?_
  refine x_callV (As := [.int (iI (xI xs (i + 1))), .int (iI (xI xs (i + 2)))]) (rest := []) ⟨hx, hb, hml, hown, hts⟩ (kX4_list x f q kq vq h g T K ik SB SS SN tn TB F V jc (xI xs (i + 1)) (xI xs (i + 2)) B hG hB (xI_r xs (i + 1)) (xI_r xs (i + 2))) (cwV 2 hts gL_law_X4_list rfl rfl rfl ykVX4_list ⟨Nat.le_of_ble_eq_true rfl, Nat.le_of_ble_eq_true rfl⟩) hP hK hD hS 0 3 rfl rfl lw_e1 [0, 1, 2, 3, 4, 5, 6, 7, 8, 9, 10, 11, 12, 13, 14, 15, 16, 17, 18, 19, 20, 21, 22, 23, 24, 25, 26, 27, 28, 29, 30, 31] lw_c1 lw_n1 (fun _ => lw_f1) (fun u => wC cI cB x f q kq vq h g u.1.2 u.2.1 u.2.2 ++ wM cI r (T, K2, ik, SB, SS, SN, tn, TB, F) X Y j) (fun _ => lw_q1) rfl hl.1 rfl (Nat.le_of_ble_eq_true rfl) dL_law_254 ⟨Nat.le_of_ble_eq_true rfl, Nat.le_of_ble_eq_true rfl⟩ (fun u H locs hu hP hD hS => ?_)
  refine W.eq (g2 := F0 m 257 ls [.int (iI u.1.1)]) rfl ?_
  refine lv_aload_n hx hb dL_law_257 rfl (lv_at hl 2 rfl) ?_
  refine lv_aload_n hx hb dL_law_258 rfl (lv_at hl 0 rfl) ?_
  refine lv_iload_n hx hb dL_law_259 rfl (lv_at hl 3 rfl) ?_
  refine x_iconst hx hb dL_law_260 ?_
  refine x_iadd hx hb dL_law_261 ?_
  refine x_sld hx hb hX0 hbl hbA hS (i + 1) (by omega) (by omega) hL dL_law_262 ?_
  refine lv_aload_n hx hb dL_law_263 rfl (lv_at hl 0 rfl) ?_
  refine lv_iload_n hx hb dL_law_264 rfl (lv_at hl 3 rfl) ?_
  refine x_iconst hx hb dL_law_265 ?_
  refine x_iadd hx hb dL_law_266 ?_
  refine x_sld hx hb hX0 hbl hbA hS (i + 2) (by omega) (by omega) hL dL_law_267 ?_
  refine x_callV (As := [.int (iI (xI xs (i + 1))), .int (iI (xI xs (i + 2)))]) (rest := [.int (iI u.1.1)]) ⟨hx, hb, hml, hown, hts⟩ (kX5_list r T K2 ik SB SS SN tn TB F X Y j (xI xs (i + 1)) (xI xs (i + 2)) B hG2 hB (xI_r xs (i + 1)) (xI_r xs (i + 2))) (cwV 2 hts gL_law_X5_list rfl rfl rfl ykVX5_list ⟨Nat.le_of_ble_eq_true rfl, Nat.le_of_ble_eq_true rfl⟩) hP hK hD hS 32 4 rfl rfl lw_e2 [32, 33, 34, 35, 36, 37, 38, 39, 40, 41] lw_c2 lw_n2 (fun _ => lw_f2) (fun v => wC cI cB x f q kq vq h g u.1.2 u.2.1 u.2.2 ++ wM cI r v.1.2 v.2.1 v.2.2.1 v.2.2.2) (fun _ => lw_q2) rfl hl.1 rfl (Nat.le_of_ble_eq_true rfl) dL_law_268 ⟨Nat.le_of_ble_eq_true rfl, Nat.le_of_ble_eq_true rfl⟩ (fun v H locs hv hP hD hS => ?_)
  refine W.eq (g2 := F0 m 271 ls [.int (iI v.1.1), .int (iI u.1.1)]) rfl ?_
  have hE2 : eqK u.1 v.1 := by rw [show u.1 = _ from hu, show v.1 = _ from hv]; exact ek_list (xI xs (i + 1)) (xI xs (i + 2)) T K K2 ik SB SS SN tn TB F hE
  have hZ1 : GIp (B + 61) u.1 := by rw [show u.1 = _ from hu]; exact gi_list hG (xI_r xs (i + 1)) (xI_r xs (i + 2))
  have hZ2 : GIp (B + 61) v.1 := by rw [show v.1 = _ from hv]; exact gi_list hG2 (xI_r xs (i + 1)) (xI_r xs (i + 2))
  exact x_eqI (tgt := 1490) hx hb hE2.1 dL_law_271 (by decide) (kk H locs (lwI_next hE2 hZ1 hZ2 hP hD hS))
set_option maxHeartbeats 4000000 in
set_option maxRecDepth 100000 in
theorem lc_2 (C0 : lC p s m c b L xs D cI cB kS vS) (hi : i + 6 ≤ L) (hL : L ≤ 3072) (hB : B ≤ 40000) (hI : lwI D cI cB x f q kq vq h g r s B H locs) (hl : lv_has ls 4 [(0, .ref b), (1, .ref x), (2, .ref (r 0)), (3, .int (iI ((i : Nat) : Int)))])
    (kk : ∀ (H : Heap) (locs : List Loc), lwI D cI cB x f q kq vq h g r s (B + 61) H locs → W p l e room_1 s m #[Value.ref b] below meth c H locs 42 1349 Q (F0 m 1490 ls [])) : W p l e room_1 s m #[Value.ref b] below meth c H locs 42 1349 Q (F0 m 276 ls []) := by
  obtain ⟨hx, hb, hml, hown, hts, hX0, hbl, hK, hX⟩ := C0
  have hbA : ¬ (fun q : Nat => s.heap.size ≤ q) b := Nat.not_le.mpr hbl
  obtain ⟨T, K, K2, ik, SB, SS, SN, tn, TB, F, V, jc, X, Y, j, hG, hG2, hE, hP, hD, hS⟩ := hI
  refine lv_aload_n hx hb dL_law_276 rfl (lv_at hl 1 rfl) ?_
  refine lv_aload_n hx hb dL_law_277 rfl (lv_at hl 0 rfl) ?_
  refine lv_iload_n hx hb dL_law_278 rfl (lv_at hl 3 rfl) ?_
  refine x_iconst hx hb dL_law_279 ?_
  refine x_iadd hx hb dL_law_280 ?_
  refine x_sld hx hb hX0 hbl hbA hS (i + 1) (by omega) (by omega) hL dL_law_281 ?_
  refine x_callV (As := [.int (iI (xI xs (i + 1)))]) (rest := []) ⟨hx, hb, hml, hown, hts⟩ (kX4_listed x f q kq vq h g T K ik SB SS SN tn TB F V jc (xI xs (i + 1)) B hG hB (xI_r xs (i + 1))) (cwV 1 hts gL_law_X4_listed rfl rfl rfl ykVX4_listed ⟨Nat.le_of_ble_eq_true rfl, Nat.le_of_ble_eq_true rfl⟩) hP hK hD hS 0 3 rfl rfl lw_e1 [0, 1, 2, 3, 4, 5, 6, 7, 8, 9, 10, 11, 12, 13, 14, 15, 16, 17, 18, 19, 20, 21, 22, 23, 24, 25, 26, 27, 28, 29, 30, 31] lw_c1 lw_n1 (fun _ => lw_f1) (fun u => wC cI cB x f q kq vq h g u.1.2 u.2.1 u.2.2 ++ wM cI r (T, K2, ik, SB, SS, SN, tn, TB, F) X Y j) (fun _ => lw_q1) rfl hl.1 rfl (Nat.le_of_ble_eq_true rfl) dL_law_282 ⟨Nat.le_of_ble_eq_true rfl, Nat.le_of_ble_eq_true rfl⟩ (fun u H locs hu hP hD hS => ?_)
  refine W.eq (g2 := F0 m 285 ls [.int (iI u.1.1)]) rfl ?_
  refine lv_aload_n hx hb dL_law_285 rfl (lv_at hl 2 rfl) ?_
  refine lv_aload_n hx hb dL_law_286 rfl (lv_at hl 0 rfl) ?_
  refine lv_iload_n hx hb dL_law_287 rfl (lv_at hl 3 rfl) ?_
  refine x_iconst hx hb dL_law_288 ?_
  refine x_iadd hx hb dL_law_289 ?_
  refine x_sld hx hb hX0 hbl hbA hS (i + 1) (by omega) (by omega) hL dL_law_290 ?_
  refine x_callV (As := [.int (iI (xI xs (i + 1)))]) (rest := [.int (iI u.1.1)]) ⟨hx, hb, hml, hown, hts⟩ (kX5_listed r T K2 ik SB SS SN tn TB F X Y j (xI xs (i + 1)) B hG2 hB (xI_r xs (i + 1))) (cwV 1 hts gL_law_X5_listed rfl rfl rfl ykVX5_listed ⟨Nat.le_of_ble_eq_true rfl, Nat.le_of_ble_eq_true rfl⟩) hP hK hD hS 32 4 rfl rfl lw_e2 [32, 33, 34, 35, 36, 37, 38, 39, 40, 41] lw_c2 lw_n2 (fun _ => lw_f2) (fun v => wC cI cB x f q kq vq h g u.1.2 u.2.1 u.2.2 ++ wM cI r v.1.2 v.2.1 v.2.2.1 v.2.2.2) (fun _ => lw_q2) rfl hl.1 rfl (Nat.le_of_ble_eq_true rfl) dL_law_291 ⟨Nat.le_of_ble_eq_true rfl, Nat.le_of_ble_eq_true rfl⟩ (fun v H locs hv hP hD hS => ?_)
  refine W.eq (g2 := F0 m 294 ls [.int (iI v.1.1), .int (iI u.1.1)]) rfl ?_
  have hE2 : eqK u.1 v.1 := by rw [show u.1 = _ from hu, show v.1 = _ from hv]; exact ek_listed (xI xs (i + 1)) T K K2 ik SB SS SN tn TB F hE
  have hZ1 : GIp (B + 61) u.1 := by rw [show u.1 = _ from hu]; exact gi_listed hG (xI_r xs (i + 1))
  have hZ2 : GIp (B + 61) v.1 := by rw [show v.1 = _ from hv]; exact gi_listed hG2 (xI_r xs (i + 1))
  exact x_eqI (tgt := 1490) hx hb hE2.1 dL_law_294 (by decide) (kk H locs (lwI_next hE2 hZ1 hZ2 hP hD hS))
set_option maxHeartbeats 4000000 in
set_option maxRecDepth 100000 in
theorem lc_3 (C0 : lC p s m c b L xs D cI cB kS vS) (hi : i + 6 ≤ L) (hL : L ≤ 3072) (hB : B ≤ 40000) (hI : lwI D cI cB x f q kq vq h g r s B H locs) (hl : lv_has ls 4 [(0, .ref b), (1, .ref x), (2, .ref (r 0)), (3, .int (iI ((i : Nat) : Int)))])
    (kk : ∀ (H : Heap) (locs : List Loc), lwI D cI cB x f q kq vq h g r s (B + 61) H locs → W p l e room_1 s m #[Value.ref b] below meth c H locs 42 1349 Q (F0 m 1490 ls [])) : W p l e room_1 s m #[Value.ref b] below meth c H locs 42 1349 Q (F0 m 299 ls []) := by
  obtain ⟨hx, hb, hml, hown, hts, hX0, hbl, hK, hX⟩ := C0
  have hbA : ¬ (fun q : Nat => s.heap.size ≤ q) b := Nat.not_le.mpr hbl
  obtain ⟨T, K, K2, ik, SB, SS, SN, tn, TB, F, V, jc, X, Y, j, hG, hG2, hE, hP, hD, hS⟩ := hI
  refine lv_aload_n hx hb dL_law_299 rfl (lv_at hl 1 rfl) ?_
  refine lv_aload_n hx hb dL_law_300 rfl (lv_at hl 0 rfl) ?_
  refine lv_iload_n hx hb dL_law_301 rfl (lv_at hl 3 rfl) ?_
  refine x_iconst hx hb dL_law_302 ?_
  refine x_iadd hx hb dL_law_303 ?_
  refine x_sld hx hb hX0 hbl hbA hS (i + 1) (by omega) (by omega) hL dL_law_304 ?_
  refine x_callV (As := [.int (iI (xI xs (i + 1)))]) (rest := []) ⟨hx, hb, hml, hown, hts⟩ (kX4_speaker x f q kq vq h g T K ik SB SS SN tn TB F V jc (xI xs (i + 1)) B hG hB (xI_r xs (i + 1))) (cwV 1 hts gL_law_X4_speaker rfl rfl rfl ykVX4_speaker ⟨Nat.le_of_ble_eq_true rfl, Nat.le_of_ble_eq_true rfl⟩) hP hK hD hS 0 3 rfl rfl lw_e1 [0, 1, 2, 3, 4, 5, 6, 7, 8, 9, 10, 11, 12, 13, 14, 15, 16, 17, 18, 19, 20, 21, 22, 23, 24, 25, 26, 27, 28, 29, 30, 31] lw_c1 lw_n1 (fun _ => lw_f1) (fun u => wC cI cB x f q kq vq h g u.1.2 u.2.1 u.2.2 ++ wM cI r (T, K2, ik, SB, SS, SN, tn, TB, F) X Y j) (fun _ => lw_q1) rfl hl.1 rfl (Nat.le_of_ble_eq_true rfl) dL_law_305 ⟨Nat.le_of_ble_eq_true rfl, Nat.le_of_ble_eq_true rfl⟩ (fun u H locs hu hP hD hS => ?_)
  refine W.eq (g2 := F0 m 308 ls [.int (iI u.1.1)]) rfl ?_
  refine lv_aload_n hx hb dL_law_308 rfl (lv_at hl 2 rfl) ?_
  refine lv_aload_n hx hb dL_law_309 rfl (lv_at hl 0 rfl) ?_
  refine lv_iload_n hx hb dL_law_310 rfl (lv_at hl 3 rfl) ?_
  refine x_iconst hx hb dL_law_311 ?_
  refine x_iadd hx hb dL_law_312 ?_
  refine x_sld hx hb hX0 hbl hbA hS (i + 1) (by omega) (by omega) hL dL_law_313 ?_
  refine x_callV (As := [.int (iI (xI xs (i + 1)))]) (rest := [.int (iI u.1.1)]) ⟨hx, hb, hml, hown, hts⟩ (kX5_speaker r T K2 ik SB SS SN tn TB F X Y j (xI xs (i + 1)) B hG2 hB (xI_r xs (i + 1))) (cwV 1 hts gL_law_X5_speaker rfl rfl rfl ykVX5_speaker ⟨Nat.le_of_ble_eq_true rfl, Nat.le_of_ble_eq_true rfl⟩) hP hK hD hS 32 4 rfl rfl lw_e2 [32, 33, 34, 35, 36, 37, 38, 39, 40, 41] lw_c2 lw_n2 (fun _ => lw_f2) (fun v => wC cI cB x f q kq vq h g u.1.2 u.2.1 u.2.2 ++ wM cI r v.1.2 v.2.1 v.2.2.1 v.2.2.2) (fun _ => lw_q2) rfl hl.1 rfl (Nat.le_of_ble_eq_true rfl) dL_law_314 ⟨Nat.le_of_ble_eq_true rfl, Nat.le_of_ble_eq_true rfl⟩ (fun v H locs hv hP hD hS => ?_)
  refine W.eq (g2 := F0 m 317 ls [.int (iI v.1.1), .int (iI u.1.1)]) rfl ?_
  have hE2 : eqK u.1 v.1 := by rw [show u.1 = _ from hu, show v.1 = _ from hv]; exact ek_speaker (xI xs (i + 1)) T K K2 ik SB SS SN tn TB F hE
  have hZ1 : GIp (B + 61) u.1 := by rw [show u.1 = _ from hu]; exact gi_speaker hG (xI_r xs (i + 1))
  have hZ2 : GIp (B + 61) v.1 := by rw [show v.1 = _ from hv]; exact gi_speaker hG2 (xI_r xs (i + 1))
  exact x_eqI (tgt := 1490) hx hb hE2.1 dL_law_317 (by decide) (kk H locs (lwI_next hE2 hZ1 hZ2 hP hD hS))
set_option maxHeartbeats 4000000 in
set_option maxRecDepth 100000 in
theorem lc_4 (C0 : lC p s m c b L xs D cI cB kS vS) (hi : i + 6 ≤ L) (hL : L ≤ 3072) (hB : B ≤ 40000) (hI : lwI D cI cB x f q kq vq h g r s B H locs) (hl : lv_has ls 4 [(0, .ref b), (1, .ref x), (2, .ref (r 0)), (3, .int (iI ((i : Nat) : Int)))])
    (kk : ∀ (H : Heap) (locs : List Loc), lwI D cI cB x f q kq vq h g r s (B + 61) H locs → W p l e room_1 s m #[Value.ref b] below meth c H locs 42 1349 Q (F0 m 1490 ls [])) : W p l e room_1 s m #[Value.ref b] below meth c H locs 42 1349 Q (F0 m 322 ls []) := by
  obtain ⟨hx, hb, hml, hown, hts, hX0, hbl, hK, hX⟩ := C0
  have hbA : ¬ (fun q : Nat => s.heap.size ≤ q) b := Nat.not_le.mpr hbl
  obtain ⟨T, K, K2, ik, SB, SS, SN, tn, TB, F, V, jc, X, Y, j, hG, hG2, hE, hP, hD, hS⟩ := hI
  refine lv_aload_n hx hb dL_law_322 rfl (lv_at hl 1 rfl) ?_
  refine lv_aload_n hx hb dL_law_323 rfl (lv_at hl 0 rfl) ?_
  refine lv_iload_n hx hb dL_law_324 rfl (lv_at hl 3 rfl) ?_
  refine x_iconst hx hb dL_law_325 ?_
  refine x_iadd hx hb dL_law_326 ?_
  refine x_sld hx hb hX0 hbl hbA hS (i + 1) (by omega) (by omega) hL dL_law_327 ?_
  refine lv_aload_n hx hb dL_law_328 rfl (lv_at hl 0 rfl) ?_
  refine lv_iload_n hx hb dL_law_329 rfl (lv_at hl 3 rfl) ?_
  refine x_iconst hx hb dL_law_330 ?_
  refine x_iadd hx hb dL_law_331 ?_
  refine x_sld hx hb hX0 hbl hbA hS (i + 2) (by omega) (by omega) hL dL_law_332 ?_
  refine x_callV (As := [.int (iI (xI xs (i + 1))), .int (iI (xI xs (i + 2)))]) (rest := []) ⟨hx, hb, hml, hown, hts⟩ (kX4_of x f q kq vq h g T K ik SB SS SN tn TB F V jc (xI xs (i + 1)) (xI xs (i + 2)) B hG hB (xI_r xs (i + 1)) (xI_r xs (i + 2))) (cwV 2 hts gL_law_X4_of rfl rfl rfl ykVX4_of ⟨Nat.le_of_ble_eq_true rfl, Nat.le_of_ble_eq_true rfl⟩) hP hK hD hS 0 3 rfl rfl lw_e1 [0, 1, 2, 3, 4, 5, 6, 7, 8, 9, 10, 11, 12, 13, 14, 15, 16, 17, 18, 19, 20, 21, 22, 23, 24, 25, 26, 27, 28, 29, 30, 31] lw_c1 lw_n1 (fun _ => lw_f1) (fun u => wC cI cB x f q kq vq h g u.1.2 u.2.1 u.2.2 ++ wM cI r (T, K2, ik, SB, SS, SN, tn, TB, F) X Y j) (fun _ => lw_q1) rfl hl.1 rfl (Nat.le_of_ble_eq_true rfl) dL_law_333 ⟨Nat.le_of_ble_eq_true rfl, Nat.le_of_ble_eq_true rfl⟩ (fun u H locs hu hP hD hS => ?_)
  refine W.eq (g2 := F0 m 336 ls [.int (iI u.1.1)]) rfl ?_
  refine lv_aload_n hx hb dL_law_336 rfl (lv_at hl 2 rfl) ?_
  refine lv_aload_n hx hb dL_law_337 rfl (lv_at hl 0 rfl) ?_
  refine lv_iload_n hx hb dL_law_338 rfl (lv_at hl 3 rfl) ?_
  refine x_iconst hx hb dL_law_339 ?_
  refine x_iadd hx hb dL_law_340 ?_
  refine x_sld hx hb hX0 hbl hbA hS (i + 1) (by omega) (by omega) hL dL_law_341 ?_
  refine lv_aload_n hx hb dL_law_342 rfl (lv_at hl 0 rfl) ?_
  refine lv_iload_n hx hb dL_law_343 rfl (lv_at hl 3 rfl) ?_
  refine x_iconst hx hb dL_law_344 ?_
  refine x_iadd hx hb dL_law_345 ?_
  refine x_sld hx hb hX0 hbl hbA hS (i + 2) (by omega) (by omega) hL dL_law_346 ?_
  refine x_callV (As := [.int (iI (xI xs (i + 1))), .int (iI (xI xs (i + 2)))]) (rest := [.int (iI u.1.1)]) ⟨hx, hb, hml, hown, hts⟩ (kX5_of r T K2 ik SB SS SN tn TB F X Y j (xI xs (i + 1)) (xI xs (i + 2)) B hG2 hB (xI_r xs (i + 1)) (xI_r xs (i + 2))) (cwV 2 hts gL_law_X5_of rfl rfl rfl ykVX5_of ⟨Nat.le_of_ble_eq_true rfl, Nat.le_of_ble_eq_true rfl⟩) hP hK hD hS 32 4 rfl rfl lw_e2 [32, 33, 34, 35, 36, 37, 38, 39, 40, 41] lw_c2 lw_n2 (fun _ => lw_f2) (fun v => wC cI cB x f q kq vq h g u.1.2 u.2.1 u.2.2 ++ wM cI r v.1.2 v.2.1 v.2.2.1 v.2.2.2) (fun _ => lw_q2) rfl hl.1 rfl (Nat.le_of_ble_eq_true rfl) dL_law_347 ⟨Nat.le_of_ble_eq_true rfl, Nat.le_of_ble_eq_true rfl⟩ (fun v H locs hv hP hD hS => ?_)
  refine W.eq (g2 := F0 m 350 ls [.int (iI v.1.1), .int (iI u.1.1)]) rfl ?_
  have hE2 : eqK u.1 v.1 := by rw [show u.1 = _ from hu, show v.1 = _ from hv]; exact ek_of (xI xs (i + 1)) (xI xs (i + 2)) T K K2 ik SB SS SN tn TB F hE
  have hZ1 : GIp (B + 61) u.1 := by rw [show u.1 = _ from hu]; exact gi_of hG (xI_r xs (i + 1)) (xI_r xs (i + 2))
  have hZ2 : GIp (B + 61) v.1 := by rw [show v.1 = _ from hv]; exact gi_of hG2 (xI_r xs (i + 1)) (xI_r xs (i + 2))
  exact x_eqI (tgt := 1490) hx hb hE2.1 dL_law_350 (by decide) (kk H locs (lwI_next hE2 hZ1 hZ2 hP hD hS))
set_option maxHeartbeats 4000000 in
set_option maxRecDepth 100000 in
theorem lc_5 (C0 : lC p s m c b L xs D cI cB kS vS) (hi : i + 6 ≤ L) (hL : L ≤ 3072) (hB : B ≤ 40000) (hI : lwI D cI cB x f q kq vq h g r s B H locs) (hl : lv_has ls 4 [(0, .ref b), (1, .ref x), (2, .ref (r 0)), (3, .int (iI ((i : Nat) : Int)))])
    (kk : ∀ (H : Heap) (locs : List Loc), lwI D cI cB x f q kq vq h g r s (B + 61) H locs → W p l e room_1 s m #[Value.ref b] below meth c H locs 42 1349 Q (F0 m 1490 ls [])) : W p l e room_1 s m #[Value.ref b] below meth c H locs 42 1349 Q (F0 m 355 ls []) := by
  obtain ⟨hx, hb, hml, hown, hts, hX0, hbl, hK, hX⟩ := C0
  have hbA : ¬ (fun q : Nat => s.heap.size ≤ q) b := Nat.not_le.mpr hbl
  obtain ⟨T, K, K2, ik, SB, SS, SN, tn, TB, F, V, jc, X, Y, j, hG, hG2, hE, hP, hD, hS⟩ := hI
  refine lv_aload_n hx hb dL_law_355 rfl (lv_at hl 1 rfl) ?_
  refine lv_aload_n hx hb dL_law_356 rfl (lv_at hl 0 rfl) ?_
  refine lv_iload_n hx hb dL_law_357 rfl (lv_at hl 3 rfl) ?_
  refine x_iconst hx hb dL_law_358 ?_
  refine x_iadd hx hb dL_law_359 ?_
  refine x_sld hx hb hX0 hbl hbA hS (i + 1) (by omega) (by omega) hL dL_law_360 ?_
  refine lv_aload_n hx hb dL_law_361 rfl (lv_at hl 0 rfl) ?_
  refine lv_iload_n hx hb dL_law_362 rfl (lv_at hl 3 rfl) ?_
  refine x_iconst hx hb dL_law_363 ?_
  refine x_iadd hx hb dL_law_364 ?_
  refine x_sld hx hb hX0 hbl hbA hS (i + 2) (by omega) (by omega) hL dL_law_365 ?_
  refine lv_aload_n hx hb dL_law_366 rfl (lv_at hl 0 rfl) ?_
  refine lv_iload_n hx hb dL_law_367 rfl (lv_at hl 3 rfl) ?_
  refine x_iconst hx hb dL_law_368 ?_
  refine x_iadd hx hb dL_law_369 ?_
  refine x_sld hx hb hX0 hbl hbA hS (i + 3) (by omega) (by omega) hL dL_law_370 ?_
  refine x_callV (As := [.int (iI (xI xs (i + 1))), .int (iI (xI xs (i + 2))), .int (iI (xI xs (i + 3)))]) (rest := []) ⟨hx, hb, hml, hown, hts⟩ (kX4_change x f q kq vq h g T K ik SB SS SN tn TB F V jc (xI xs (i + 1)) (xI xs (i + 2)) (xI xs (i + 3)) B hG hB (xI_r xs (i + 1)) (xI_r xs (i + 2)) (xI_r xs (i + 3))) (cwV 3 hts gL_law_X4_change rfl rfl rfl ykVX4_change ⟨Nat.le_of_ble_eq_true rfl, Nat.le_of_ble_eq_true rfl⟩) hP hK hD hS 0 3 rfl rfl lw_e1 [0, 1, 2, 3, 4, 5, 6, 7, 8, 9, 10, 11, 12, 13, 14, 15, 16, 17, 18, 19, 20, 21, 22, 23, 24, 25, 26, 27, 28, 29, 30, 31] lw_c1 lw_n1 (fun _ => lw_f1) (fun u => wC cI cB x f q kq vq h g u.1.2 u.2.1 u.2.2 ++ wM cI r (T, K2, ik, SB, SS, SN, tn, TB, F) X Y j) (fun _ => lw_q1) rfl hl.1 rfl (Nat.le_of_ble_eq_true rfl) dL_law_371 ⟨Nat.le_of_ble_eq_true rfl, Nat.le_of_ble_eq_true rfl⟩ (fun u H locs hu hP hD hS => ?_)
  refine W.eq (g2 := F0 m 374 ls [.int (iI u.1.1)]) rfl ?_
  refine lv_aload_n hx hb dL_law_374 rfl (lv_at hl 2 rfl) ?_
  refine lv_aload_n hx hb dL_law_375 rfl (lv_at hl 0 rfl) ?_
  refine lv_iload_n hx hb dL_law_376 rfl (lv_at hl 3 rfl) ?_
  refine x_iconst hx hb dL_law_377 ?_
  refine x_iadd hx hb dL_law_378 ?_
  refine x_sld hx hb hX0 hbl hbA hS (i + 1) (by omega) (by omega) hL dL_law_379 ?_
  refine lv_aload_n hx hb dL_law_380 rfl (lv_at hl 0 rfl) ?_
  refine lv_iload_n hx hb dL_law_381 rfl (lv_at hl 3 rfl) ?_
  refine x_iconst hx hb dL_law_382 ?_
  refine x_iadd hx hb dL_law_383 ?_
  refine x_sld hx hb hX0 hbl hbA hS (i + 2) (by omega) (by omega) hL dL_law_384 ?_
  refine lv_aload_n hx hb dL_law_385 rfl (lv_at hl 0 rfl) ?_
  refine lv_iload_n hx hb dL_law_386 rfl (lv_at hl 3 rfl) ?_
  refine x_iconst hx hb dL_law_387 ?_
  refine x_iadd hx hb dL_law_388 ?_
  refine x_sld hx hb hX0 hbl hbA hS (i + 3) (by omega) (by omega) hL dL_law_389 ?_
  refine x_callV (As := [.int (iI (xI xs (i + 1))), .int (iI (xI xs (i + 2))), .int (iI (xI xs (i + 3)))]) (rest := [.int (iI u.1.1)]) ⟨hx, hb, hml, hown, hts⟩ (kX5_change r T K2 ik SB SS SN tn TB F X Y j (xI xs (i + 1)) (xI xs (i + 2)) (xI xs (i + 3)) B hG2 hB (xI_r xs (i + 1)) (xI_r xs (i + 2)) (xI_r xs (i + 3))) (cwV 3 hts gL_law_X5_change rfl rfl rfl ykVX5_change ⟨Nat.le_of_ble_eq_true rfl, Nat.le_of_ble_eq_true rfl⟩) hP hK hD hS 32 4 rfl rfl lw_e2 [32, 33, 34, 35, 36, 37, 38, 39, 40, 41] lw_c2 lw_n2 (fun _ => lw_f2) (fun v => wC cI cB x f q kq vq h g u.1.2 u.2.1 u.2.2 ++ wM cI r v.1.2 v.2.1 v.2.2.1 v.2.2.2) (fun _ => lw_q2) rfl hl.1 rfl (Nat.le_of_ble_eq_true rfl) dL_law_390 ⟨Nat.le_of_ble_eq_true rfl, Nat.le_of_ble_eq_true rfl⟩ (fun v H locs hv hP hD hS => ?_)
  refine W.eq (g2 := F0 m 393 ls [.int (iI v.1.1), .int (iI u.1.1)]) rfl ?_
  have hE2 : eqK u.1 v.1 := by rw [show u.1 = _ from hu, show v.1 = _ from hv]; exact ek_change (xI xs (i + 1)) (xI xs (i + 2)) (xI xs (i + 3)) T K K2 ik SB SS SN tn TB F hE
  have hZ1 : GIp (B + 61) u.1 := by rw [show u.1 = _ from hu]; exact gi_change hG (xI_r xs (i + 1)) (xI_r xs (i + 2)) (xI_r xs (i + 3))
  have hZ2 : GIp (B + 61) v.1 := by rw [show v.1 = _ from hv]; exact gi_change hG2 (xI_r xs (i + 1)) (xI_r xs (i + 2)) (xI_r xs (i + 3))
  exact x_eqI (tgt := 1490) hx hb hE2.1 dL_law_393 (by decide) (kk H locs (lwI_next hE2 hZ1 hZ2 hP hD hS))
set_option maxHeartbeats 4000000 in
set_option maxRecDepth 100000 in
theorem lc_6 (C0 : lC p s m c b L xs D cI cB kS vS) (hi : i + 6 ≤ L) (hL : L ≤ 3072) (hB : B ≤ 40000) (hI : lwI D cI cB x f q kq vq h g r s B H locs) (hl : lv_has ls 4 [(0, .ref b), (1, .ref x), (2, .ref (r 0)), (3, .int (iI ((i : Nat) : Int)))])
    (kk : ∀ (H : Heap) (locs : List Loc), lwI D cI cB x f q kq vq h g r s (B + 61) H locs → W p l e room_1 s m #[Value.ref b] below meth c H locs 42 1349 Q (F0 m 1490 ls [])) : W p l e room_1 s m #[Value.ref b] below meth c H locs 42 1349 Q (F0 m 398 ls []) := by
  obtain ⟨hx, hb, hml, hown, hts, hX0, hbl, hK, hX⟩ := C0
  have hbA : ¬ (fun q : Nat => s.heap.size ≤ q) b := Nat.not_le.mpr hbl
  obtain ⟨T, K, K2, ik, SB, SS, SN, tn, TB, F, V, jc, X, Y, j, hG, hG2, hE, hP, hD, hS⟩ := hI
  refine lv_aload_n hx hb dL_law_398 rfl (lv_at hl 1 rfl) ?_
  refine lv_aload_n hx hb dL_law_399 rfl (lv_at hl 0 rfl) ?_
  refine lv_iload_n hx hb dL_law_400 rfl (lv_at hl 3 rfl) ?_
  refine x_iconst hx hb dL_law_401 ?_
  refine x_iadd hx hb dL_law_402 ?_
  refine x_sld hx hb hX0 hbl hbA hS (i + 1) (by omega) (by omega) hL dL_law_403 ?_
  refine lv_aload_n hx hb dL_law_404 rfl (lv_at hl 0 rfl) ?_
  refine lv_iload_n hx hb dL_law_405 rfl (lv_at hl 3 rfl) ?_
  refine x_iconst hx hb dL_law_406 ?_
  refine x_iadd hx hb dL_law_407 ?_
  refine x_sld hx hb hX0 hbl hbA hS (i + 2) (by omega) (by omega) hL dL_law_408 ?_
  refine lv_aload_n hx hb dL_law_409 rfl (lv_at hl 0 rfl) ?_
  refine lv_iload_n hx hb dL_law_410 rfl (lv_at hl 3 rfl) ?_
  refine x_iconst hx hb dL_law_411 ?_
  refine x_iadd hx hb dL_law_412 ?_
  refine x_sld hx hb hX0 hbl hbA hS (i + 3) (by omega) (by omega) hL dL_law_413 ?_
  refine x_callV (As := [.int (iI (xI xs (i + 1))), .int (iI (xI xs (i + 2))), .int (iI (xI xs (i + 3)))]) (rest := []) ⟨hx, hb, hml, hown, hts⟩ (kX4_serve x f q kq vq h g T K ik SB SS SN tn TB F V jc (xI xs (i + 1)) (xI xs (i + 2)) (xI xs (i + 3)) B hG hB (xI_r xs (i + 1)) (xI_r xs (i + 2)) (xI_r xs (i + 3))) (cwV 3 hts gL_law_X4_serve rfl rfl rfl ykVX4_serve ⟨Nat.le_of_ble_eq_true rfl, Nat.le_of_ble_eq_true rfl⟩) hP hK hD hS 0 3 rfl rfl lw_e1 [0, 1, 2, 3, 4, 5, 6, 7, 8, 9, 10, 11, 12, 13, 14, 15, 16, 17, 18, 19, 20, 21, 22, 23, 24, 25, 26, 27, 28, 29, 30, 31] lw_c1 lw_n1 (fun _ => lw_f1) (fun u => wC cI cB x f q kq vq h g u.1.2 u.2.1 u.2.2 ++ wM cI r (T, K2, ik, SB, SS, SN, tn, TB, F) X Y j) (fun _ => lw_q1) rfl hl.1 rfl (Nat.le_of_ble_eq_true rfl) dL_law_414 ⟨Nat.le_of_ble_eq_true rfl, Nat.le_of_ble_eq_true rfl⟩ (fun u H locs hu hP hD hS => ?_)
  refine W.eq (g2 := F0 m 417 ls [.int (iI u.1.1)]) rfl ?_
  refine lv_aload_n hx hb dL_law_417 rfl (lv_at hl 2 rfl) ?_
  refine lv_aload_n hx hb dL_law_418 rfl (lv_at hl 0 rfl) ?_
  refine lv_iload_n hx hb dL_law_419 rfl (lv_at hl 3 rfl) ?_
  refine x_iconst hx hb dL_law_420 ?_
  refine x_iadd hx hb dL_law_421 ?_
  refine x_sld hx hb hX0 hbl hbA hS (i + 1) (by omega) (by omega) hL dL_law_422 ?_
  refine lv_aload_n hx hb dL_law_423 rfl (lv_at hl 0 rfl) ?_
  refine lv_iload_n hx hb dL_law_424 rfl (lv_at hl 3 rfl) ?_
  refine x_iconst hx hb dL_law_425 ?_
  refine x_iadd hx hb dL_law_426 ?_
  refine x_sld hx hb hX0 hbl hbA hS (i + 2) (by omega) (by omega) hL dL_law_427 ?_
  refine lv_aload_n hx hb dL_law_428 rfl (lv_at hl 0 rfl) ?_
  refine lv_iload_n hx hb dL_law_429 rfl (lv_at hl 3 rfl) ?_
  refine x_iconst hx hb dL_law_430 ?_
  refine x_iadd hx hb dL_law_431 ?_
  refine x_sld hx hb hX0 hbl hbA hS (i + 3) (by omega) (by omega) hL dL_law_432 ?_
  refine x_callV (As := [.int (iI (xI xs (i + 1))), .int (iI (xI xs (i + 2))), .int (iI (xI xs (i + 3)))]) (rest := [.int (iI u.1.1)]) ⟨hx, hb, hml, hown, hts⟩ (kX5_serve r T K2 ik SB SS SN tn TB F X Y j (xI xs (i + 1)) (xI xs (i + 2)) (xI xs (i + 3)) B hG2 hB (xI_r xs (i + 1)) (xI_r xs (i + 2)) (xI_r xs (i + 3))) (cwV 3 hts gL_law_X5_serve rfl rfl rfl ykVX5_serve ⟨Nat.le_of_ble_eq_true rfl, Nat.le_of_ble_eq_true rfl⟩) hP hK hD hS 32 4 rfl rfl lw_e2 [32, 33, 34, 35, 36, 37, 38, 39, 40, 41] lw_c2 lw_n2 (fun _ => lw_f2) (fun v => wC cI cB x f q kq vq h g u.1.2 u.2.1 u.2.2 ++ wM cI r v.1.2 v.2.1 v.2.2.1 v.2.2.2) (fun _ => lw_q2) rfl hl.1 rfl (Nat.le_of_ble_eq_true rfl) dL_law_433 ⟨Nat.le_of_ble_eq_true rfl, Nat.le_of_ble_eq_true rfl⟩ (fun v H locs hv hP hD hS => ?_)
  refine W.eq (g2 := F0 m 436 ls [.int (iI v.1.1), .int (iI u.1.1)]) rfl ?_
  have hE2 : eqK u.1 v.1 := by rw [show u.1 = _ from hu, show v.1 = _ from hv]; exact ek_serve (xI xs (i + 1)) (xI xs (i + 2)) (xI xs (i + 3)) T K K2 ik SB SS SN tn TB F hE
  have hZ1 : GIp (B + 61) u.1 := by rw [show u.1 = _ from hu]; exact gi_serve hG (xI_r xs (i + 1)) (xI_r xs (i + 2)) (xI_r xs (i + 3))
  have hZ2 : GIp (B + 61) v.1 := by rw [show v.1 = _ from hv]; exact gi_serve hG2 (xI_r xs (i + 1)) (xI_r xs (i + 2)) (xI_r xs (i + 3))
  exact x_eqI (tgt := 1490) hx hb hE2.1 dL_law_436 (by decide) (kk H locs (lwI_next hE2 hZ1 hZ2 hP hD hS))
set_option maxHeartbeats 4000000 in
set_option maxRecDepth 100000 in
theorem lc_7 (C0 : lC p s m c b L xs D cI cB kS vS) (hi : i + 6 ≤ L) (hL : L ≤ 3072) (hB : B ≤ 40000) (hI : lwI D cI cB x f q kq vq h g r s B H locs) (hl : lv_has ls 4 [(0, .ref b), (1, .ref x), (2, .ref (r 0)), (3, .int (iI ((i : Nat) : Int)))])
    (kk : ∀ (H : Heap) (locs : List Loc), lwI D cI cB x f q kq vq h g r s (B + 61) H locs → W p l e room_1 s m #[Value.ref b] below meth c H locs 42 1349 Q (F0 m 1490 ls [])) : W p l e room_1 s m #[Value.ref b] below meth c H locs 42 1349 Q (F0 m 441 ls []) := by
  obtain ⟨hx, hb, hml, hown, hts, hX0, hbl, hK, hX⟩ := C0
  have hbA : ¬ (fun q : Nat => s.heap.size ≤ q) b := Nat.not_le.mpr hbl
  obtain ⟨T, K, K2, ik, SB, SS, SN, tn, TB, F, V, jc, X, Y, j, hG, hG2, hE, hP, hD, hS⟩ := hI
  refine lv_aload_n hx hb dL_law_441 rfl (lv_at hl 1 rfl) ?_
  refine lv_aload_n hx hb dL_law_442 rfl (lv_at hl 0 rfl) ?_
  refine lv_iload_n hx hb dL_law_443 rfl (lv_at hl 3 rfl) ?_
  refine x_iconst hx hb dL_law_444 ?_
  refine x_iadd hx hb dL_law_445 ?_
  refine x_sld hx hb hX0 hbl hbA hS (i + 1) (by omega) (by omega) hL dL_law_446 ?_
  refine lv_aload_n hx hb dL_law_447 rfl (lv_at hl 0 rfl) ?_
  refine lv_iload_n hx hb dL_law_448 rfl (lv_at hl 3 rfl) ?_
  refine x_iconst hx hb dL_law_449 ?_
  refine x_iadd hx hb dL_law_450 ?_
  refine x_sld hx hb hX0 hbl hbA hS (i + 2) (by omega) (by omega) hL dL_law_451 ?_
  refine x_callV (As := [.int (iI (xI xs (i + 1))), .int (iI (xI xs (i + 2)))]) (rest := []) ⟨hx, hb, hml, hown, hts⟩ (kX4_plate x f q kq vq h g T K ik SB SS SN tn TB F V jc (xI xs (i + 1)) (xI xs (i + 2)) B hG hB (xI_r xs (i + 1)) (xI_r xs (i + 2))) (cwV 2 hts gL_law_X4_plate rfl rfl rfl ykVX4_plate ⟨Nat.le_of_ble_eq_true rfl, Nat.le_of_ble_eq_true rfl⟩) hP hK hD hS 0 3 rfl rfl lw_e1 [0, 1, 2, 3, 4, 5, 6, 7, 8, 9, 10, 11, 12, 13, 14, 15, 16, 17, 18, 19, 20, 21, 22, 23, 24, 25, 26, 27, 28, 29, 30, 31] lw_c1 lw_n1 (fun _ => lw_f1) (fun u => wC cI cB x f q kq vq h g u.1.2 u.2.1 u.2.2 ++ wM cI r (T, K2, ik, SB, SS, SN, tn, TB, F) X Y j) (fun _ => lw_q1) rfl hl.1 rfl (Nat.le_of_ble_eq_true rfl) dL_law_452 ⟨Nat.le_of_ble_eq_true rfl, Nat.le_of_ble_eq_true rfl⟩ (fun u H locs hu hP hD hS => ?_)
  refine W.eq (g2 := F0 m 455 ls [.int (iI u.1.1)]) rfl ?_
  refine lv_aload_n hx hb dL_law_455 rfl (lv_at hl 2 rfl) ?_
  refine lv_aload_n hx hb dL_law_456 rfl (lv_at hl 0 rfl) ?_
  refine lv_iload_n hx hb dL_law_457 rfl (lv_at hl 3 rfl) ?_
  refine x_iconst hx hb dL_law_458 ?_
  refine x_iadd hx hb dL_law_459 ?_
  refine x_sld hx hb hX0 hbl hbA hS (i + 1) (by omega) (by omega) hL dL_law_460 ?_
  refine lv_aload_n hx hb dL_law_461 rfl (lv_at hl 0 rfl) ?_
  refine lv_iload_n hx hb dL_law_462 rfl (lv_at hl 3 rfl) ?_
  refine x_iconst hx hb dL_law_463 ?_
  refine x_iadd hx hb dL_law_464 ?_
  refine x_sld hx hb hX0 hbl hbA hS (i + 2) (by omega) (by omega) hL dL_law_465 ?_
  refine x_callV (As := [.int (iI (xI xs (i + 1))), .int (iI (xI xs (i + 2)))]) (rest := [.int (iI u.1.1)]) ⟨hx, hb, hml, hown, hts⟩ (kX5_plate r T K2 ik SB SS SN tn TB F X Y j (xI xs (i + 1)) (xI xs (i + 2)) B hG2 hB (xI_r xs (i + 1)) (xI_r xs (i + 2))) (cwV 2 hts gL_law_X5_plate rfl rfl rfl ykVX5_plate ⟨Nat.le_of_ble_eq_true rfl, Nat.le_of_ble_eq_true rfl⟩) hP hK hD hS 32 4 rfl rfl lw_e2 [32, 33, 34, 35, 36, 37, 38, 39, 40, 41] lw_c2 lw_n2 (fun _ => lw_f2) (fun v => wC cI cB x f q kq vq h g u.1.2 u.2.1 u.2.2 ++ wM cI r v.1.2 v.2.1 v.2.2.1 v.2.2.2) (fun _ => lw_q2) rfl hl.1 rfl (Nat.le_of_ble_eq_true rfl) dL_law_466 ⟨Nat.le_of_ble_eq_true rfl, Nat.le_of_ble_eq_true rfl⟩ (fun v H locs hv hP hD hS => ?_)
  refine W.eq (g2 := F0 m 469 ls [.int (iI v.1.1), .int (iI u.1.1)]) rfl ?_
  have hE2 : eqK u.1 v.1 := by rw [show u.1 = _ from hu, show v.1 = _ from hv]; exact ek_plate (xI xs (i + 1)) (xI xs (i + 2)) T K K2 ik SB SS SN tn TB F hE
  have hZ1 : GIp (B + 61) u.1 := by rw [show u.1 = _ from hu]; exact gi_plate hG (xI_r xs (i + 1)) (xI_r xs (i + 2))
  have hZ2 : GIp (B + 61) v.1 := by rw [show v.1 = _ from hv]; exact gi_plate hG2 (xI_r xs (i + 1)) (xI_r xs (i + 2))
  exact x_eqI (tgt := 1490) hx hb hE2.1 dL_law_469 (by decide) (kk H locs (lwI_next hE2 hZ1 hZ2 hP hD hS))
set_option maxHeartbeats 4000000 in
set_option maxRecDepth 100000 in
theorem lc_8 (C0 : lC p s m c b L xs D cI cB kS vS) (hi : i + 6 ≤ L) (hL : L ≤ 3072) (hB : B ≤ 40000) (hI : lwI D cI cB x f q kq vq h g r s B H locs) (hl : lv_has ls 4 [(0, .ref b), (1, .ref x), (2, .ref (r 0)), (3, .int (iI ((i : Nat) : Int)))])
    (kk : ∀ (H : Heap) (locs : List Loc), lwI D cI cB x f q kq vq h g r s (B + 61) H locs → W p l e room_1 s m #[Value.ref b] below meth c H locs 42 1349 Q (F0 m 1490 ls [])) : W p l e room_1 s m #[Value.ref b] below meth c H locs 42 1349 Q (F0 m 474 ls []) := by
  obtain ⟨hx, hb, hml, hown, hts, hX0, hbl, hK, hX⟩ := C0
  have hbA : ¬ (fun q : Nat => s.heap.size ≤ q) b := Nat.not_le.mpr hbl
  obtain ⟨T, K, K2, ik, SB, SS, SN, tn, TB, F, V, jc, X, Y, j, hG, hG2, hE, hP, hD, hS⟩ := hI
  refine lv_aload_n hx hb dL_law_474 rfl (lv_at hl 1 rfl) ?_
  refine lv_aload_n hx hb dL_law_475 rfl (lv_at hl 0 rfl) ?_
  refine lv_iload_n hx hb dL_law_476 rfl (lv_at hl 3 rfl) ?_
  refine x_iconst hx hb dL_law_477 ?_
  refine x_iadd hx hb dL_law_478 ?_
  refine x_sld hx hb hX0 hbl hbA hS (i + 1) (by omega) (by omega) hL dL_law_479 ?_
  refine lv_aload_n hx hb dL_law_480 rfl (lv_at hl 0 rfl) ?_
  refine lv_iload_n hx hb dL_law_481 rfl (lv_at hl 3 rfl) ?_
  refine x_iconst hx hb dL_law_482 ?_
  refine x_iadd hx hb dL_law_483 ?_
  refine x_sld hx hb hX0 hbl hbA hS (i + 2) (by omega) (by omega) hL dL_law_484 ?_
  refine x_callV (As := [.int (iI (xI xs (i + 1))), .int (iI (xI xs (i + 2)))]) (rest := []) ⟨hx, hb, hml, hown, hts⟩ (kX4_chews x f q kq vq h g T K ik SB SS SN tn TB F V jc (xI xs (i + 1)) (xI xs (i + 2)) B hG hB (xI_r xs (i + 1)) (xI_r xs (i + 2))) (cwV 2 hts gL_law_X4_chews rfl rfl rfl ykVX4_chews ⟨Nat.le_of_ble_eq_true rfl, Nat.le_of_ble_eq_true rfl⟩) hP hK hD hS 0 3 rfl rfl lw_e1 [0, 1, 2, 3, 4, 5, 6, 7, 8, 9, 10, 11, 12, 13, 14, 15, 16, 17, 18, 19, 20, 21, 22, 23, 24, 25, 26, 27, 28, 29, 30, 31] lw_c1 lw_n1 (fun _ => lw_f1) (fun u => wC cI cB x f q kq vq h g u.1.2 u.2.1 u.2.2 ++ wM cI r (T, K2, ik, SB, SS, SN, tn, TB, F) X Y j) (fun _ => lw_q1) rfl hl.1 rfl (Nat.le_of_ble_eq_true rfl) dL_law_485 ⟨Nat.le_of_ble_eq_true rfl, Nat.le_of_ble_eq_true rfl⟩ (fun u H locs hu hP hD hS => ?_)
  refine W.eq (g2 := F0 m 488 ls [.int (iI u.1.1)]) rfl ?_
  refine lv_aload_n hx hb dL_law_488 rfl (lv_at hl 2 rfl) ?_
  refine lv_aload_n hx hb dL_law_489 rfl (lv_at hl 0 rfl) ?_
  refine lv_iload_n hx hb dL_law_490 rfl (lv_at hl 3 rfl) ?_
  refine x_iconst hx hb dL_law_491 ?_
  refine x_iadd hx hb dL_law_492 ?_
  refine x_sld hx hb hX0 hbl hbA hS (i + 1) (by omega) (by omega) hL dL_law_493 ?_
  refine lv_aload_n hx hb dL_law_494 rfl (lv_at hl 0 rfl) ?_
  refine lv_iload_n hx hb dL_law_495 rfl (lv_at hl 3 rfl) ?_
  refine x_iconst hx hb dL_law_496 ?_
  refine x_iadd hx hb dL_law_497 ?_
  refine x_sld hx hb hX0 hbl hbA hS (i + 2) (by omega) (by omega) hL dL_law_498 ?_
  refine x_callV (As := [.int (iI (xI xs (i + 1))), .int (iI (xI xs (i + 2)))]) (rest := [.int (iI u.1.1)]) ⟨hx, hb, hml, hown, hts⟩ (kX5_chews r T K2 ik SB SS SN tn TB F X Y j (xI xs (i + 1)) (xI xs (i + 2)) B hG2 hB (xI_r xs (i + 1)) (xI_r xs (i + 2))) (cwV 2 hts gL_law_X5_chews rfl rfl rfl ykVX5_chews ⟨Nat.le_of_ble_eq_true rfl, Nat.le_of_ble_eq_true rfl⟩) hP hK hD hS 32 4 rfl rfl lw_e2 [32, 33, 34, 35, 36, 37, 38, 39, 40, 41] lw_c2 lw_n2 (fun _ => lw_f2) (fun v => wC cI cB x f q kq vq h g u.1.2 u.2.1 u.2.2 ++ wM cI r v.1.2 v.2.1 v.2.2.1 v.2.2.2) (fun _ => lw_q2) rfl hl.1 rfl (Nat.le_of_ble_eq_true rfl) dL_law_499 ⟨Nat.le_of_ble_eq_true rfl, Nat.le_of_ble_eq_true rfl⟩ (fun v H locs hv hP hD hS => ?_)
  refine W.eq (g2 := F0 m 502 ls [.int (iI v.1.1), .int (iI u.1.1)]) rfl ?_
  have hE2 : eqK u.1 v.1 := by rw [show u.1 = _ from hu, show v.1 = _ from hv]; exact ek_chews (xI xs (i + 1)) (xI xs (i + 2)) T K K2 ik SB SS SN tn TB F hE
  have hZ1 : GIp (B + 61) u.1 := by rw [show u.1 = _ from hu]; exact gi_chews hG (xI_r xs (i + 1)) (xI_r xs (i + 2))
  have hZ2 : GIp (B + 61) v.1 := by rw [show v.1 = _ from hv]; exact gi_chews hG2 (xI_r xs (i + 1)) (xI_r xs (i + 2))
  exact x_eqI (tgt := 1490) hx hb hE2.1 dL_law_502 (by decide) (kk H locs (lwI_next hE2 hZ1 hZ2 hP hD hS))
set_option maxHeartbeats 4000000 in
set_option maxRecDepth 100000 in
theorem lc_9 (C0 : lC p s m c b L xs D cI cB kS vS) (hi : i + 6 ≤ L) (hL : L ≤ 3072) (hB : B ≤ 40000) (hI : lwI D cI cB x f q kq vq h g r s B H locs) (hl : lv_has ls 4 [(0, .ref b), (1, .ref x), (2, .ref (r 0)), (3, .int (iI ((i : Nat) : Int)))])
    (kk : ∀ (H : Heap) (locs : List Loc), lwI D cI cB x f q kq vq h g r s (B + 61) H locs → W p l e room_1 s m #[Value.ref b] below meth c H locs 42 1349 Q (F0 m 1490 ls [])) : W p l e room_1 s m #[Value.ref b] below meth c H locs 42 1349 Q (F0 m 507 ls []) := by
  obtain ⟨hx, hb, hml, hown, hts, hX0, hbl, hK, hX⟩ := C0
  have hbA : ¬ (fun q : Nat => s.heap.size ≤ q) b := Nat.not_le.mpr hbl
  obtain ⟨T, K, K2, ik, SB, SS, SN, tn, TB, F, V, jc, X, Y, j, hG, hG2, hE, hP, hD, hS⟩ := hI
  refine lv_aload_n hx hb dL_law_507 rfl (lv_at hl 1 rfl) ?_
  refine lv_aload_n hx hb dL_law_508 rfl (lv_at hl 0 rfl) ?_
  refine lv_iload_n hx hb dL_law_509 rfl (lv_at hl 3 rfl) ?_
  refine x_iconst hx hb dL_law_510 ?_
  refine x_iadd hx hb dL_law_511 ?_
  refine x_sld hx hb hX0 hbl hbA hS (i + 1) (by omega) (by omega) hL dL_law_512 ?_
  refine lv_aload_n hx hb dL_law_513 rfl (lv_at hl 0 rfl) ?_
  refine lv_iload_n hx hb dL_law_514 rfl (lv_at hl 3 rfl) ?_
  refine x_iconst hx hb dL_law_515 ?_
  refine x_iadd hx hb dL_law_516 ?_
  refine x_sld hx hb hX0 hbl hbA hS (i + 2) (by omega) (by omega) hL dL_law_517 ?_
  refine x_callV (As := [.int (iI (xI xs (i + 1))), .int (iI (xI xs (i + 2)))]) (rest := []) ⟨hx, hb, hml, hown, hts⟩ (kX4_talks x f q kq vq h g T K ik SB SS SN tn TB F V jc (xI xs (i + 1)) (xI xs (i + 2)) B hG hB (xI_r xs (i + 1)) (xI_r xs (i + 2))) (cwV 2 hts gL_law_X4_talks rfl rfl rfl ykVX4_talks ⟨Nat.le_of_ble_eq_true rfl, Nat.le_of_ble_eq_true rfl⟩) hP hK hD hS 0 3 rfl rfl lw_e1 [0, 1, 2, 3, 4, 5, 6, 7, 8, 9, 10, 11, 12, 13, 14, 15, 16, 17, 18, 19, 20, 21, 22, 23, 24, 25, 26, 27, 28, 29, 30, 31] lw_c1 lw_n1 (fun _ => lw_f1) (fun u => wC cI cB x f q kq vq h g u.1.2 u.2.1 u.2.2 ++ wM cI r (T, K2, ik, SB, SS, SN, tn, TB, F) X Y j) (fun _ => lw_q1) rfl hl.1 rfl (Nat.le_of_ble_eq_true rfl) dL_law_518 ⟨Nat.le_of_ble_eq_true rfl, Nat.le_of_ble_eq_true rfl⟩ (fun u H locs hu hP hD hS => ?_)
  refine W.eq (g2 := F0 m 521 ls [.int (iI u.1.1)]) rfl ?_
  refine lv_aload_n hx hb dL_law_521 rfl (lv_at hl 2 rfl) ?_
  refine lv_aload_n hx hb dL_law_522 rfl (lv_at hl 0 rfl) ?_
  refine lv_iload_n hx hb dL_law_523 rfl (lv_at hl 3 rfl) ?_
  refine x_iconst hx hb dL_law_524 ?_
  refine x_iadd hx hb dL_law_525 ?_
  refine x_sld hx hb hX0 hbl hbA hS (i + 1) (by omega) (by omega) hL dL_law_526 ?_
  refine lv_aload_n hx hb dL_law_527 rfl (lv_at hl 0 rfl) ?_
  refine lv_iload_n hx hb dL_law_528 rfl (lv_at hl 3 rfl) ?_
  refine x_iconst hx hb dL_law_529 ?_
  refine x_iadd hx hb dL_law_530 ?_
  refine x_sld hx hb hX0 hbl hbA hS (i + 2) (by omega) (by omega) hL dL_law_531 ?_
  refine x_callV (As := [.int (iI (xI xs (i + 1))), .int (iI (xI xs (i + 2)))]) (rest := [.int (iI u.1.1)]) ⟨hx, hb, hml, hown, hts⟩ (kX5_talks r T K2 ik SB SS SN tn TB F X Y j (xI xs (i + 1)) (xI xs (i + 2)) B hG2 hB (xI_r xs (i + 1)) (xI_r xs (i + 2))) (cwV 2 hts gL_law_X5_talks rfl rfl rfl ykVX5_talks ⟨Nat.le_of_ble_eq_true rfl, Nat.le_of_ble_eq_true rfl⟩) hP hK hD hS 32 4 rfl rfl lw_e2 [32, 33, 34, 35, 36, 37, 38, 39, 40, 41] lw_c2 lw_n2 (fun _ => lw_f2) (fun v => wC cI cB x f q kq vq h g u.1.2 u.2.1 u.2.2 ++ wM cI r v.1.2 v.2.1 v.2.2.1 v.2.2.2) (fun _ => lw_q2) rfl hl.1 rfl (Nat.le_of_ble_eq_true rfl) dL_law_532 ⟨Nat.le_of_ble_eq_true rfl, Nat.le_of_ble_eq_true rfl⟩ (fun v H locs hv hP hD hS => ?_)
  refine W.eq (g2 := F0 m 535 ls [.int (iI v.1.1), .int (iI u.1.1)]) rfl ?_
  have hE2 : eqK u.1 v.1 := by rw [show u.1 = _ from hu, show v.1 = _ from hv]; exact ek_talks (xI xs (i + 1)) (xI xs (i + 2)) T K K2 ik SB SS SN tn TB F hE
  have hZ1 : GIp (B + 61) u.1 := by rw [show u.1 = _ from hu]; exact gi_talks hG (xI_r xs (i + 1)) (xI_r xs (i + 2))
  have hZ2 : GIp (B + 61) v.1 := by rw [show v.1 = _ from hv]; exact gi_talks hG2 (xI_r xs (i + 1)) (xI_r xs (i + 2))
  exact x_eqI (tgt := 1490) hx hb hE2.1 dL_law_535 (by decide) (kk H locs (lwI_next hE2 hZ1 hZ2 hP hD hS))
set_option maxHeartbeats 4000000 in
set_option maxRecDepth 100000 in
theorem lc_10 (C0 : lC p s m c b L xs D cI cB kS vS) (hi : i + 6 ≤ L) (hL : L ≤ 3072) (hB : B ≤ 40000) (hI : lwI D cI cB x f q kq vq h g r s B H locs) (hl : lv_has ls 4 [(0, .ref b), (1, .ref x), (2, .ref (r 0)), (3, .int (iI ((i : Nat) : Int)))])
    (kk : ∀ (H : Heap) (locs : List Loc), lwI D cI cB x f q kq vq h g r s (B + 61) H locs → W p l e room_1 s m #[Value.ref b] below meth c H locs 42 1349 Q (F0 m 1490 ls [])) : W p l e room_1 s m #[Value.ref b] below meth c H locs 42 1349 Q (F0 m 540 ls []) := by
  obtain ⟨hx, hb, hml, hown, hts, hX0, hbl, hK, hX⟩ := C0
  have hbA : ¬ (fun q : Nat => s.heap.size ≤ q) b := Nat.not_le.mpr hbl
  obtain ⟨T, K, K2, ik, SB, SS, SN, tn, TB, F, V, jc, X, Y, j, hG, hG2, hE, hP, hD, hS⟩ := hI
  refine lv_aload_n hx hb dL_law_540 rfl (lv_at hl 1 rfl) ?_
  refine lv_aload_n hx hb dL_law_541 rfl (lv_at hl 0 rfl) ?_
  refine lv_iload_n hx hb dL_law_542 rfl (lv_at hl 3 rfl) ?_
  refine x_iconst hx hb dL_law_543 ?_
  refine x_iadd hx hb dL_law_544 ?_
  refine x_sld hx hb hX0 hbl hbA hS (i + 1) (by omega) (by omega) hL dL_law_545 ?_
  refine x_callV (As := [.int (iI (xI xs (i + 1)))]) (rest := []) ⟨hx, hb, hml, hown, hts⟩ (kX4_go x f q kq vq h g T K ik SB SS SN tn TB F V jc (xI xs (i + 1)) B hG hB (xI_r xs (i + 1))) (cwV 1 hts gL_law_X4_go rfl rfl rfl ykVX4_go ⟨Nat.le_of_ble_eq_true rfl, Nat.le_of_ble_eq_true rfl⟩) hP hK hD hS 0 3 rfl rfl lw_e1 [0, 1, 2, 3, 4, 5, 6, 7, 8, 9, 10, 11, 12, 13, 14, 15, 16, 17, 18, 19, 20, 21, 22, 23, 24, 25, 26, 27, 28, 29, 30, 31] lw_c1 lw_n1 (fun _ => lw_f1) (fun u => wC cI cB x f q kq vq h g u.1.2 u.2.1 u.2.2 ++ wM cI r (T, K2, ik, SB, SS, SN, tn, TB, F) X Y j) (fun _ => lw_q1) rfl hl.1 rfl (Nat.le_of_ble_eq_true rfl) dL_law_546 ⟨Nat.le_of_ble_eq_true rfl, Nat.le_of_ble_eq_true rfl⟩ (fun u H locs hu hP hD hS => ?_)
  refine W.eq (g2 := F0 m 549 ls [.int (iI u.1.1)]) rfl ?_
  refine lv_aload_n hx hb dL_law_549 rfl (lv_at hl 2 rfl) ?_
  refine lv_aload_n hx hb dL_law_550 rfl (lv_at hl 0 rfl) ?_
  refine lv_iload_n hx hb dL_law_551 rfl (lv_at hl 3 rfl) ?_
  refine x_iconst hx hb dL_law_552 ?_
  refine x_iadd hx hb dL_law_553 ?_
  refine x_sld hx hb hX0 hbl hbA hS (i + 1) (by omega) (by omega) hL dL_law_554 ?_
  refine x_callV (As := [.int (iI (xI xs (i + 1)))]) (rest := [.int (iI u.1.1)]) ⟨hx, hb, hml, hown, hts⟩ (kX5_go r T K2 ik SB SS SN tn TB F X Y j (xI xs (i + 1)) B hG2 hB (xI_r xs (i + 1))) (cwV 1 hts gL_law_X5_go rfl rfl rfl ykVX5_go ⟨Nat.le_of_ble_eq_true rfl, Nat.le_of_ble_eq_true rfl⟩) hP hK hD hS 32 4 rfl rfl lw_e2 [32, 33, 34, 35, 36, 37, 38, 39, 40, 41] lw_c2 lw_n2 (fun _ => lw_f2) (fun v => wC cI cB x f q kq vq h g u.1.2 u.2.1 u.2.2 ++ wM cI r v.1.2 v.2.1 v.2.2.1 v.2.2.2) (fun _ => lw_q2) rfl hl.1 rfl (Nat.le_of_ble_eq_true rfl) dL_law_555 ⟨Nat.le_of_ble_eq_true rfl, Nat.le_of_ble_eq_true rfl⟩ (fun v H locs hv hP hD hS => ?_)
  refine W.eq (g2 := F0 m 558 ls [.int (iI v.1.1), .int (iI u.1.1)]) rfl ?_
  have hE2 : eqK u.1 v.1 := by rw [show u.1 = _ from hu, show v.1 = _ from hv]; exact ek_go (xI xs (i + 1)) T K K2 ik SB SS SN tn TB F hE
  have hZ1 : GIp (B + 61) u.1 := by rw [show u.1 = _ from hu]; exact gi_go hG (xI_r xs (i + 1))
  have hZ2 : GIp (B + 61) v.1 := by rw [show v.1 = _ from hv]; exact gi_go hG2 (xI_r xs (i + 1))
  exact x_eqI (tgt := 1490) hx hb hE2.1 dL_law_558 (by decide) (kk H locs (lwI_next hE2 hZ1 hZ2 hP hD hS))
end LWC0
