/-! the law: cases -/
section LWC2
variable {p : Program} {l : Launch} {e : Env} {s : State} {m : MethodId} {below : List Frame} {meth : Method} {c : Code} {H : Heap} {locs : List Loc} {Q : State → Prop}
variable {ls : Array Slot} {D : va_G} {cI cB : ClassId} {kS vS : Nat → Nat} {x f : Nat} {q kq vq h g r : Nat → Nat} {b L : Nat} {xs : Nat → Int32} {i : Nat} {B : Int}
set_option maxHeartbeats 4000000 in
set_option maxRecDepth 100000 in
theorem lc_22 (C0 : lC p s m c b L xs D cI cB kS vS) (hi : i + 6 ≤ L) (hL : L ≤ 3072) (hB : B ≤ 40000) (hI : lwI D cI cB x f q kq vq h g r s B H locs) (hl : lv_has ls 4 [(0, .ref b), (1, .ref x), (2, .ref (r 0)), (3, .int (iI ((i : Nat) : Int)))])
    (kk : ∀ (H : Heap) (locs : List Loc), lwI D cI cB x f q kq vq h g r s (B + 61) H locs → W p l e room_1 s m #[Value.ref b] below meth c H locs 42 1349 Q (F0 m 1490 ls [])) : W p l e room_1 s m #[Value.ref b] below meth c H locs 42 1349 Q (F0 m 906 ls []) := by
  obtain ⟨hx, hb, hml, hown, hts, hX0, hbl, hK, hX⟩ := C0
  have hbA : ¬ (fun q : Nat => s.heap.size ≤ q) b := Nat.not_le.mpr hbl
  obtain ⟨T, K, K2, ik, SB, SS, SN, tn, TB, F, V, jc, X, Y, j, hG, hG2, hE, hP, hD, hS⟩ := hI
  refine lv_aload_n hx hb dL_law_906 rfl (lv_at hl 1 rfl) ?_
  refine lv_aload_n hx hb dL_law_907 rfl (lv_at hl 0 rfl) ?_
  refine lv_iload_n hx hb dL_law_908 rfl (lv_at hl 3 rfl) ?_
  refine x_iconst hx hb dL_law_909 ?_
  refine x_iadd hx hb dL_law_910 ?_
  refine x_sld hx hb hX0 hbl hbA hS (i + 1) (by omega) (by omega) hL dL_law_911 ?_
  refine x_callV (As := [.int (iI (xI xs (i + 1)))]) (rest := []) ⟨hx, hb, hml, hown, hts⟩ (kX4_swapFor x f q kq vq h g T K ik SB SS SN tn TB F V jc (xI xs (i + 1)) B hG hB (xI_r xs (i + 1))) (cwV 1 hts gL_law_X4_swapFor rfl rfl rfl ykVX4_swapFor ⟨Nat.le_of_ble_eq_true rfl, Nat.le_of_ble_eq_true rfl⟩) hP hK hD hS 0 3 rfl rfl lw_e1 [0, 1, 2, 3, 4, 5, 6, 7, 8, 9, 10, 11, 12, 13, 14, 15, 16, 17, 18, 19, 20, 21, 22, 23, 24, 25, 26, 27, 28, 29, 30, 31] lw_c1 lw_n1 (fun _ => lw_f1) (fun u => wC cI cB x f q kq vq h g u.1.2 u.2.1 u.2.2 ++ wM cI r (T, K2, ik, SB, SS, SN, tn, TB, F) X Y j) (fun _ => lw_q1) rfl hl.1 rfl (Nat.le_of_ble_eq_true rfl) dL_law_912 ⟨Nat.le_of_ble_eq_true rfl, Nat.le_of_ble_eq_true rfl⟩ (fun u H locs hu hP hD hS => ?_)
  refine W.eq (g2 := F0 m 915 ls [.int (iI u.1.1)]) rfl ?_
  refine lv_aload_n hx hb dL_law_915 rfl (lv_at hl 2 rfl) ?_
  refine lv_aload_n hx hb dL_law_916 rfl (lv_at hl 0 rfl) ?_
  refine lv_iload_n hx hb dL_law_917 rfl (lv_at hl 3 rfl) ?_
  refine x_iconst hx hb dL_law_918 ?_
  refine x_iadd hx hb dL_law_919 ?_
  refine x_sld hx hb hX0 hbl hbA hS (i + 1) (by omega) (by omega) hL dL_law_920 ?_
  refine x_callV (As := [.int (iI (xI xs (i + 1)))]) (rest := [.int (iI u.1.1)]) ⟨hx, hb, hml, hown, hts⟩ (kX5_swapFor r T K2 ik SB SS SN tn TB F X Y j (xI xs (i + 1)) B hG2 hB (xI_r xs (i + 1))) (cwV 1 hts gL_law_X5_swapFor rfl rfl rfl ykVX5_swapFor ⟨Nat.le_of_ble_eq_true rfl, Nat.le_of_ble_eq_true rfl⟩) hP hK hD hS 32 4 rfl rfl lw_e2 [32, 33, 34, 35, 36, 37, 38, 39, 40, 41] lw_c2 lw_n2 (fun _ => lw_f2) (fun v => wC cI cB x f q kq vq h g u.1.2 u.2.1 u.2.2 ++ wM cI r v.1.2 v.2.1 v.2.2.1 v.2.2.2) (fun _ => lw_q2) rfl hl.1 rfl (Nat.le_of_ble_eq_true rfl) dL_law_921 ⟨Nat.le_of_ble_eq_true rfl, Nat.le_of_ble_eq_true rfl⟩ (fun v H locs hv hP hD hS => ?_)
  refine W.eq (g2 := F0 m 924 ls [.int (iI v.1.1), .int (iI u.1.1)]) rfl ?_
  have hE2 : eqK u.1 v.1 := by rw [show u.1 = _ from hu, show v.1 = _ from hv]; exact ek_swapFor (xI xs (i + 1)) T K K2 ik SB SS SN tn TB F hE
  have hZ1 : GIp (B + 61) u.1 := by rw [show u.1 = _ from hu]; exact gi_swapFor hG (xI_r xs (i + 1))
  have hZ2 : GIp (B + 61) v.1 := by rw [show v.1 = _ from hv]; exact gi_swapFor hG2 (xI_r xs (i + 1))
  exact x_eqI (tgt := 1490) hx hb hE2.1 dL_law_924 (by decide) (kk H locs (lwI_next hE2 hZ1 hZ2 hP hD hS))
set_option maxHeartbeats 4000000 in
set_option maxRecDepth 100000 in
theorem lc_23 (C0 : lC p s m c b L xs D cI cB kS vS) (hi : i + 6 ≤ L) (hL : L ≤ 3072) (hB : B ≤ 40000) (hI : lwI D cI cB x f q kq vq h g r s B H locs) (hl : lv_has ls 4 [(0, .ref b), (1, .ref x), (2, .ref (r 0)), (3, .int (iI ((i : Nat) : Int)))])
    (kk : ∀ (H : Heap) (locs : List Loc), lwI D cI cB x f q kq vq h g r s (B + 61) H locs → W p l e room_1 s m #[Value.ref b] below meth c H locs 42 1349 Q (F0 m 1490 ls [])) : W p l e room_1 s m #[Value.ref b] below meth c H locs 42 1349 Q (F0 m 929 ls []) := by
  obtain ⟨hx, hb, hml, hown, hts, hX0, hbl, hK, hX⟩ := C0
  have hbA : ¬ (fun q : Nat => s.heap.size ≤ q) b := Nat.not_le.mpr hbl
  obtain ⟨T, K, K2, ik, SB, SS, SN, tn, TB, F, V, jc, X, Y, j, hG, hG2, hE, hP, hD, hS⟩ := hI
  refine lv_aload_n hx hb dL_law_929 rfl (lv_at hl 1 rfl) ?_
  refine lv_aload_n hx hb dL_law_930 rfl (lv_at hl 0 rfl) ?_
  refine lv_iload_n hx hb dL_law_931 rfl (lv_at hl 3 rfl) ?_
  refine x_iconst hx hb dL_law_932 ?_
  refine x_iadd hx hb dL_law_933 ?_
  refine x_sld hx hb hX0 hbl hbA hS (i + 1) (by omega) (by omega) hL dL_law_934 ?_
  refine lv_aload_n hx hb dL_law_935 rfl (lv_at hl 0 rfl) ?_
  refine lv_iload_n hx hb dL_law_936 rfl (lv_at hl 3 rfl) ?_
  refine x_iconst hx hb dL_law_937 ?_
  refine x_iadd hx hb dL_law_938 ?_
  refine x_sld hx hb hX0 hbl hbA hS (i + 2) (by omega) (by omega) hL dL_law_939 ?_
  refine x_callV (As := [.int (iI (xI xs (i + 1))), .int (iI (xI xs (i + 2)))]) (rest := []) ⟨hx, hb, hml, hown, hts⟩ (kX4_fits x f q kq vq h g T K ik SB SS SN tn TB F V jc (xI xs (i + 1)) (xI xs (i + 2)) B hG hB (xI_r xs (i + 1)) (xI_r xs (i + 2))) (cwV 2 hts gL_law_X4_fits rfl rfl rfl ykVX4_fits ⟨Nat.le_of_ble_eq_true rfl, Nat.le_of_ble_eq_true rfl⟩) hP hK hD hS 0 3 rfl rfl lw_e1 [0, 1, 2, 3, 4, 5, 6, 7, 8, 9, 10, 11, 12, 13, 14, 15, 16, 17, 18, 19, 20, 21, 22, 23, 24, 25, 26, 27, 28, 29, 30, 31] lw_c1 lw_n1 (fun _ => lw_f1) (fun u => wC cI cB x f q kq vq h g u.1.2 u.2.1 u.2.2 ++ wM cI r (T, K2, ik, SB, SS, SN, tn, TB, F) X Y j) (fun _ => lw_q1) rfl hl.1 rfl (Nat.le_of_ble_eq_true rfl) dL_law_940 ⟨Nat.le_of_ble_eq_true rfl, Nat.le_of_ble_eq_true rfl⟩ (fun u H locs hu hP hD hS => ?_)
  refine W.eq (g2 := F0 m 943 ls [.int (iI u.1.1)]) rfl ?_
  refine lv_aload_n hx hb dL_law_943 rfl (lv_at hl 2 rfl) ?_
  refine lv_aload_n hx hb dL_law_944 rfl (lv_at hl 0 rfl) ?_
  refine lv_iload_n hx hb dL_law_945 rfl (lv_at hl 3 rfl) ?_
  refine x_iconst hx hb dL_law_946 ?_
  refine x_iadd hx hb dL_law_947 ?_
  refine x_sld hx hb hX0 hbl hbA hS (i + 1) (by omega) (by omega) hL dL_law_948 ?_
  refine lv_aload_n hx hb dL_law_949 rfl (lv_at hl 0 rfl) ?_
  refine lv_iload_n hx hb dL_law_950 rfl (lv_at hl 3 rfl) ?_
  refine x_iconst hx hb dL_law_951 ?_
  refine x_iadd hx hb dL_law_952 ?_
  refine x_sld hx hb hX0 hbl hbA hS (i + 2) (by omega) (by omega) hL dL_law_953 ?_
  refine x_callV (As := [.int (iI (xI xs (i + 1))), .int (iI (xI xs (i + 2)))]) (rest := [.int (iI u.1.1)]) ⟨hx, hb, hml, hown, hts⟩ (kX5_fits r T K2 ik SB SS SN tn TB F X Y j (xI xs (i + 1)) (xI xs (i + 2)) B hG2 hB (xI_r xs (i + 1)) (xI_r xs (i + 2))) (cwV 2 hts gL_law_X5_fits rfl rfl rfl ykVX5_fits ⟨Nat.le_of_ble_eq_true rfl, Nat.le_of_ble_eq_true rfl⟩) hP hK hD hS 32 4 rfl rfl lw_e2 [32, 33, 34, 35, 36, 37, 38, 39, 40, 41] lw_c2 lw_n2 (fun _ => lw_f2) (fun v => wC cI cB x f q kq vq h g u.1.2 u.2.1 u.2.2 ++ wM cI r v.1.2 v.2.1 v.2.2.1 v.2.2.2) (fun _ => lw_q2) rfl hl.1 rfl (Nat.le_of_ble_eq_true rfl) dL_law_954 ⟨Nat.le_of_ble_eq_true rfl, Nat.le_of_ble_eq_true rfl⟩ (fun v H locs hv hP hD hS => ?_)
  refine W.eq (g2 := F0 m 957 ls [.int (iI v.1.1), .int (iI u.1.1)]) rfl ?_
  have hE2 : eqK u.1 v.1 := by rw [show u.1 = _ from hu, show v.1 = _ from hv]; exact ek_fits (xI xs (i + 1)) (xI xs (i + 2)) T K K2 ik SB SS SN tn TB F hE
  have hZ1 : GIp (B + 61) u.1 := by rw [show u.1 = _ from hu]; exact gi_fits hG (xI_r xs (i + 1)) (xI_r xs (i + 2))
  have hZ2 : GIp (B + 61) v.1 := by rw [show v.1 = _ from hv]; exact gi_fits hG2 (xI_r xs (i + 1)) (xI_r xs (i + 2))
  exact x_eqI (tgt := 1490) hx hb hE2.1 dL_law_957 (by decide) (kk H locs (lwI_next hE2 hZ1 hZ2 hP hD hS))
set_option maxHeartbeats 4000000 in
set_option maxRecDepth 100000 in
theorem lc_24 (C0 : lC p s m c b L xs D cI cB kS vS) (hi : i + 6 ≤ L) (hL : L ≤ 3072) (hB : B ≤ 40000) (hI : lwI D cI cB x f q kq vq h g r s B H locs) (hl : lv_has ls 4 [(0, .ref b), (1, .ref x), (2, .ref (r 0)), (3, .int (iI ((i : Nat) : Int)))])
    (kk : ∀ (H : Heap) (locs : List Loc), lwI D cI cB x f q kq vq h g r s (B + 61) H locs → W p l e room_1 s m #[Value.ref b] below meth c H locs 42 1349 Q (F0 m 1490 ls [])) : W p l e room_1 s m #[Value.ref b] below meth c H locs 42 1349 Q (F0 m 962 ls []) := by
  obtain ⟨hx, hb, hml, hown, hts, hX0, hbl, hK, hX⟩ := C0
  have hbA : ¬ (fun q : Nat => s.heap.size ≤ q) b := Nat.not_le.mpr hbl
  obtain ⟨T, K, K2, ik, SB, SS, SN, tn, TB, F, V, jc, X, Y, j, hG, hG2, hE, hP, hD, hS⟩ := hI
  refine lv_aload_n hx hb dL_law_962 rfl (lv_at hl 1 rfl) ?_
  refine lv_aload_n hx hb dL_law_963 rfl (lv_at hl 0 rfl) ?_
  refine lv_iload_n hx hb dL_law_964 rfl (lv_at hl 3 rfl) ?_
  refine x_iconst hx hb dL_law_965 ?_
  refine x_iadd hx hb dL_law_966 ?_
  refine x_sld hx hb hX0 hbl hbA hS (i + 1) (by omega) (by omega) hL dL_law_967 ?_
  refine lv_aload_n hx hb dL_law_968 rfl (lv_at hl 0 rfl) ?_
  refine lv_iload_n hx hb dL_law_969 rfl (lv_at hl 3 rfl) ?_
  refine x_iconst hx hb dL_law_970 ?_
  refine x_iadd hx hb dL_law_971 ?_
  refine x_sld hx hb hX0 hbl hbA hS (i + 2) (by omega) (by omega) hL dL_law_972 ?_
  refine x_callV (As := [.int (iI (xI xs (i + 1))), .int (iI (xI xs (i + 2)))]) (rest := []) ⟨hx, hb, hml, hown, hts⟩ (kX4_kinds x f q kq vq h g T K ik SB SS SN tn TB F V jc (xI xs (i + 1)) (xI xs (i + 2)) B hG hB (xI_r xs (i + 1)) (xI_r xs (i + 2))) (cwV 2 hts gL_law_X4_kinds rfl rfl rfl ykVX4_kinds ⟨Nat.le_of_ble_eq_true rfl, Nat.le_of_ble_eq_true rfl⟩) hP hK hD hS 0 3 rfl rfl lw_e1 [0, 1, 2, 3, 4, 5, 6, 7, 8, 9, 10, 11, 12, 13, 14, 15, 16, 17, 18, 19, 20, 21, 22, 23, 24, 25, 26, 27, 28, 29, 30, 31] lw_c1 lw_n1 (fun _ => lw_f1) (fun u => wC cI cB x f q kq vq h g u.1.2 u.2.1 u.2.2 ++ wM cI r (T, K2, ik, SB, SS, SN, tn, TB, F) X Y j) (fun _ => lw_q1) rfl hl.1 rfl (Nat.le_of_ble_eq_true rfl) dL_law_973 ⟨Nat.le_of_ble_eq_true rfl, Nat.le_of_ble_eq_true rfl⟩ (fun u H locs hu hP hD hS => ?_)
  refine W.eq (g2 := F0 m 976 ls [.int (iI u.1.1)]) rfl ?_
  refine lv_aload_n hx hb dL_law_976 rfl (lv_at hl 2 rfl) ?_
  refine lv_aload_n hx hb dL_law_977 rfl (lv_at hl 0 rfl) ?_
  refine lv_iload_n hx hb dL_law_978 rfl (lv_at hl 3 rfl) ?_
  refine x_iconst hx hb dL_law_979 ?_
  refine x_iadd hx hb dL_law_980 ?_
  refine x_sld hx hb hX0 hbl hbA hS (i + 1) (by omega) (by omega) hL dL_law_981 ?_
  refine lv_aload_n hx hb dL_law_982 rfl (lv_at hl 0 rfl) ?_
  refine lv_iload_n hx hb dL_law_983 rfl (lv_at hl 3 rfl) ?_
  refine x_iconst hx hb dL_law_984 ?_
  refine x_iadd hx hb dL_law_985 ?_
  refine x_sld hx hb hX0 hbl hbA hS (i + 2) (by omega) (by omega) hL dL_law_986 ?_
  refine x_callV (As := [.int (iI (xI xs (i + 1))), .int (iI (xI xs (i + 2)))]) (rest := [.int (iI u.1.1)]) ⟨hx, hb, hml, hown, hts⟩ (kX5_kinds r T K2 ik SB SS SN tn TB F X Y j (xI xs (i + 1)) (xI xs (i + 2)) B hG2 hB (xI_r xs (i + 1)) (xI_r xs (i + 2))) (cwV 2 hts gL_law_X5_kinds rfl rfl rfl ykVX5_kinds ⟨Nat.le_of_ble_eq_true rfl, Nat.le_of_ble_eq_true rfl⟩) hP hK hD hS 32 4 rfl rfl lw_e2 [32, 33, 34, 35, 36, 37, 38, 39, 40, 41] lw_c2 lw_n2 (fun _ => lw_f2) (fun v => wC cI cB x f q kq vq h g u.1.2 u.2.1 u.2.2 ++ wM cI r v.1.2 v.2.1 v.2.2.1 v.2.2.2) (fun _ => lw_q2) rfl hl.1 rfl (Nat.le_of_ble_eq_true rfl) dL_law_987 ⟨Nat.le_of_ble_eq_true rfl, Nat.le_of_ble_eq_true rfl⟩ (fun v H locs hv hP hD hS => ?_)
  refine W.eq (g2 := F0 m 990 ls [.int (iI v.1.1), .int (iI u.1.1)]) rfl ?_
  have hE2 : eqK u.1 v.1 := by rw [show u.1 = _ from hu, show v.1 = _ from hv]; exact ek_kinds (xI xs (i + 1)) (xI xs (i + 2)) T K K2 ik SB SS SN tn TB F hE
  have hZ1 : GIp (B + 61) u.1 := by rw [show u.1 = _ from hu]; exact gi_kinds hG (xI_r xs (i + 1)) (xI_r xs (i + 2))
  have hZ2 : GIp (B + 61) v.1 := by rw [show v.1 = _ from hv]; exact gi_kinds hG2 (xI_r xs (i + 1)) (xI_r xs (i + 2))
  exact x_eqI (tgt := 1490) hx hb hE2.1 dL_law_990 (by decide) (kk H locs (lwI_next hE2 hZ1 hZ2 hP hD hS))
set_option maxHeartbeats 4000000 in
set_option maxRecDepth 100000 in
theorem lc_25 (C0 : lC p s m c b L xs D cI cB kS vS) (hi : i + 6 ≤ L) (hL : L ≤ 3072) (hB : B ≤ 40000) (hI : lwI D cI cB x f q kq vq h g r s B H locs) (hl : lv_has ls 4 [(0, .ref b), (1, .ref x), (2, .ref (r 0)), (3, .int (iI ((i : Nat) : Int)))])
    (kk : ∀ (H : Heap) (locs : List Loc), lwI D cI cB x f q kq vq h g r s (B + 61) H locs → W p l e room_1 s m #[Value.ref b] below meth c H locs 42 1349 Q (F0 m 1490 ls [])) : W p l e room_1 s m #[Value.ref b] below meth c H locs 42 1349 Q (F0 m 995 ls []) := by
  obtain ⟨hx, hb, hml, hown, hts, hX0, hbl, hK, hX⟩ := C0
  have hbA : ¬ (fun q : Nat => s.heap.size ≤ q) b := Nat.not_le.mpr hbl
  obtain ⟨T, K, K2, ik, SB, SS, SN, tn, TB, F, V, jc, X, Y, j, hG, hG2, hE, hP, hD, hS⟩ := hI
  refine lv_aload_n hx hb dL_law_995 rfl (lv_at hl 1 rfl) ?_
  refine lv_aload_n hx hb dL_law_996 rfl (lv_at hl 0 rfl) ?_
  refine lv_iload_n hx hb dL_law_997 rfl (lv_at hl 3 rfl) ?_
  refine x_iconst hx hb dL_law_998 ?_
  refine x_iadd hx hb dL_law_999 ?_
  refine x_sld hx hb hX0 hbl hbA hS (i + 1) (by omega) (by omega) hL dL_law_1000 ?_
  refine x_callV (As := [.int (iI (xI xs (i + 1)))]) (rest := []) ⟨hx, hb, hml, hown, hts⟩ (kX4_talk x f q kq vq h g T K ik SB SS SN tn TB F V jc (xI xs (i + 1)) B hG hB (xI_r xs (i + 1))) (cwV 1 hts gL_law_X4_talk rfl rfl rfl ykVX4_talk ⟨Nat.le_of_ble_eq_true rfl, Nat.le_of_ble_eq_true rfl⟩) hP hK hD hS 0 3 rfl rfl lw_e1 [0, 1, 2, 3, 4, 5, 6, 7, 8, 9, 10, 11, 12, 13, 14, 15, 16, 17, 18, 19, 20, 21, 22, 23, 24, 25, 26, 27, 28, 29, 30, 31] lw_c1 lw_n1 (fun _ => lw_f1) (fun u => wC cI cB x f q kq vq h g u.1.2 u.2.1 u.2.2 ++ wM cI r (T, K2, ik, SB, SS, SN, tn, TB, F) X Y j) (fun _ => lw_q1) rfl hl.1 rfl (Nat.le_of_ble_eq_true rfl) dL_law_1001 ⟨Nat.le_of_ble_eq_true rfl, Nat.le_of_ble_eq_true rfl⟩ (fun u H locs hu hP hD hS => ?_)
  refine W.eq (g2 := F0 m 1004 ls [.int (iI u.1.1)]) rfl ?_
  refine lv_aload_n hx hb dL_law_1004 rfl (lv_at hl 2 rfl) ?_
  refine lv_aload_n hx hb dL_law_1005 rfl (lv_at hl 0 rfl) ?_
  refine lv_iload_n hx hb dL_law_1006 rfl (lv_at hl 3 rfl) ?_
  refine x_iconst hx hb dL_law_1007 ?_
  refine x_iadd hx hb dL_law_1008 ?_
  refine x_sld hx hb hX0 hbl hbA hS (i + 1) (by omega) (by omega) hL dL_law_1009 ?_
  refine x_callV (As := [.int (iI (xI xs (i + 1)))]) (rest := [.int (iI u.1.1)]) ⟨hx, hb, hml, hown, hts⟩ (kX5_talk r T K2 ik SB SS SN tn TB F X Y j (xI xs (i + 1)) B hG2 hB (xI_r xs (i + 1))) (cwV 1 hts gL_law_X5_talk rfl rfl rfl ykVX5_talk ⟨Nat.le_of_ble_eq_true rfl, Nat.le_of_ble_eq_true rfl⟩) hP hK hD hS 32 4 rfl rfl lw_e2 [32, 33, 34, 35, 36, 37, 38, 39, 40, 41] lw_c2 lw_n2 (fun _ => lw_f2) (fun v => wC cI cB x f q kq vq h g u.1.2 u.2.1 u.2.2 ++ wM cI r v.1.2 v.2.1 v.2.2.1 v.2.2.2) (fun _ => lw_q2) rfl hl.1 rfl (Nat.le_of_ble_eq_true rfl) dL_law_1010 ⟨Nat.le_of_ble_eq_true rfl, Nat.le_of_ble_eq_true rfl⟩ (fun v H locs hv hP hD hS => ?_)
  refine W.eq (g2 := F0 m 1013 ls [.int (iI v.1.1), .int (iI u.1.1)]) rfl ?_
  have hE2 : eqK u.1 v.1 := by rw [show u.1 = _ from hu, show v.1 = _ from hv]; exact ek_talk (xI xs (i + 1)) T K K2 ik SB SS SN tn TB F hE
  have hZ1 : GIp (B + 61) u.1 := by rw [show u.1 = _ from hu]; exact gi_talk hG (xI_r xs (i + 1))
  have hZ2 : GIp (B + 61) v.1 := by rw [show v.1 = _ from hv]; exact gi_talk hG2 (xI_r xs (i + 1))
  exact x_eqI (tgt := 1490) hx hb hE2.1 dL_law_1013 (by decide) (kk H locs (lwI_next hE2 hZ1 hZ2 hP hD hS))
set_option maxHeartbeats 4000000 in
set_option maxRecDepth 100000 in
theorem lc_26 (C0 : lC p s m c b L xs D cI cB kS vS) (hi : i + 6 ≤ L) (hL : L ≤ 3072) (hB : B ≤ 40000) (hI : lwI D cI cB x f q kq vq h g r s B H locs) (hl : lv_has ls 4 [(0, .ref b), (1, .ref x), (2, .ref (r 0)), (3, .int (iI ((i : Nat) : Int)))])
    (kk : ∀ (H : Heap) (locs : List Loc), lwI D cI cB x f q kq vq h g r s (B + 61) H locs → W p l e room_1 s m #[Value.ref b] below meth c H locs 42 1349 Q (F0 m 1490 ls [])) : W p l e room_1 s m #[Value.ref b] below meth c H locs 42 1349 Q (F0 m 1018 ls []) := by
  obtain ⟨hx, hb, hml, hown, hts, hX0, hbl, hK, hX⟩ := C0
  have hbA : ¬ (fun q : Nat => s.heap.size ≤ q) b := Nat.not_le.mpr hbl
  obtain ⟨T, K, K2, ik, SB, SS, SN, tn, TB, F, V, jc, X, Y, j, hG, hG2, hE, hP, hD, hS⟩ := hI
  refine lv_aload_n hx hb dL_law_1018 rfl (lv_at hl 1 rfl) ?_
  refine lv_aload_n hx hb dL_law_1019 rfl (lv_at hl 0 rfl) ?_
  refine lv_iload_n hx hb dL_law_1020 rfl (lv_at hl 3 rfl) ?_
  refine x_iconst hx hb dL_law_1021 ?_
  refine x_iadd hx hb dL_law_1022 ?_
  refine x_sld hx hb hX0 hbl hbA hS (i + 1) (by omega) (by omega) hL dL_law_1023 ?_
  refine lv_aload_n hx hb dL_law_1024 rfl (lv_at hl 0 rfl) ?_
  refine lv_iload_n hx hb dL_law_1025 rfl (lv_at hl 3 rfl) ?_
  refine x_iconst hx hb dL_law_1026 ?_
  refine x_iadd hx hb dL_law_1027 ?_
  refine x_sld hx hb hX0 hbl hbA hS (i + 2) (by omega) (by omega) hL dL_law_1028 ?_
  refine lv_aload_n hx hb dL_law_1029 rfl (lv_at hl 0 rfl) ?_
  refine lv_iload_n hx hb dL_law_1030 rfl (lv_at hl 3 rfl) ?_
  refine x_iconst hx hb dL_law_1031 ?_
  refine x_iadd hx hb dL_law_1032 ?_
  refine x_sld hx hb hX0 hbl hbA hS (i + 3) (by omega) (by omega) hL dL_law_1033 ?_
  refine x_callV (As := [.int (iI (xI xs (i + 1))), .int (iI (xI xs (i + 2))), .int (iI (xI xs (i + 3)))]) (rest := []) ⟨hx, hb, hml, hown, hts⟩ (kX4_odds x f q kq vq h g T K ik SB SS SN tn TB F V jc (xI xs (i + 1)) (xI xs (i + 2)) (xI xs (i + 3)) B hG hB (xI_r xs (i + 1)) (xI_r xs (i + 2)) (xI_r xs (i + 3))) (cwV 3 hts gL_law_X4_odds rfl rfl rfl ykVX4_odds ⟨Nat.le_of_ble_eq_true rfl, Nat.le_of_ble_eq_true rfl⟩) hP hK hD hS 0 3 rfl rfl lw_e1 [0, 1, 2, 3, 4, 5, 6, 7, 8, 9, 10, 11, 12, 13, 14, 15, 16, 17, 18, 19, 20, 21, 22, 23, 24, 25, 26, 27, 28, 29, 30, 31] lw_c1 lw_n1 (fun _ => lw_f1) (fun u => wC cI cB x f q kq vq h g u.1.2 u.2.1 u.2.2 ++ wM cI r (T, K2, ik, SB, SS, SN, tn, TB, F) X Y j) (fun _ => lw_q1) rfl hl.1 rfl (Nat.le_of_ble_eq_true rfl) dL_law_1034 ⟨Nat.le_of_ble_eq_true rfl, Nat.le_of_ble_eq_true rfl⟩ (fun u H locs hu hP hD hS => ?_)
  refine W.eq (g2 := F0 m 1037 ls [.long (lI u.1.1)]) rfl ?_
  refine lv_aload_n hx hb dL_law_1037 rfl (lv_at hl 2 rfl) ?_
  refine lv_aload_n hx hb dL_law_1038 rfl (lv_at hl 0 rfl) ?_
  refine lv_iload_n hx hb dL_law_1039 rfl (lv_at hl 3 rfl) ?_
  refine x_iconst hx hb dL_law_1040 ?_
  refine x_iadd hx hb dL_law_1041 ?_
  refine x_sld hx hb hX0 hbl hbA hS (i + 1) (by omega) (by omega) hL dL_law_1042 ?_
  refine lv_aload_n hx hb dL_law_1043 rfl (lv_at hl 0 rfl) ?_
  refine lv_iload_n hx hb dL_law_1044 rfl (lv_at hl 3 rfl) ?_
  refine x_iconst hx hb dL_law_1045 ?_
  refine x_iadd hx hb dL_law_1046 ?_
  refine x_sld hx hb hX0 hbl hbA hS (i + 2) (by omega) (by omega) hL dL_law_1047 ?_
  refine lv_aload_n hx hb dL_law_1048 rfl (lv_at hl 0 rfl) ?_
  refine lv_iload_n hx hb dL_law_1049 rfl (lv_at hl 3 rfl) ?_
  refine x_iconst hx hb dL_law_1050 ?_
  refine x_iadd hx hb dL_law_1051 ?_
  refine x_sld hx hb hX0 hbl hbA hS (i + 3) (by omega) (by omega) hL dL_law_1052 ?_
  refine x_callV (As := [.int (iI (xI xs (i + 1))), .int (iI (xI xs (i + 2))), .int (iI (xI xs (i + 3)))]) (rest := [.long (lI u.1.1)]) ⟨hx, hb, hml, hown, hts⟩ (kX5_odds r T K2 ik SB SS SN tn TB F X Y j (xI xs (i + 1)) (xI xs (i + 2)) (xI xs (i + 3)) B hG2 hB (xI_r xs (i + 1)) (xI_r xs (i + 2)) (xI_r xs (i + 3))) (cwV 3 hts gL_law_X5_odds rfl rfl rfl ykVX5_odds ⟨Nat.le_of_ble_eq_true rfl, Nat.le_of_ble_eq_true rfl⟩) hP hK hD hS 32 4 rfl rfl lw_e2 [32, 33, 34, 35, 36, 37, 38, 39, 40, 41] lw_c2 lw_n2 (fun _ => lw_f2) (fun v => wC cI cB x f q kq vq h g u.1.2 u.2.1 u.2.2 ++ wM cI r v.1.2 v.2.1 v.2.2.1 v.2.2.2) (fun _ => lw_q2) rfl hl.1 rfl (Nat.le_of_ble_eq_true rfl) dL_law_1053 ⟨Nat.le_of_ble_eq_true rfl, Nat.le_of_ble_eq_true rfl⟩ (fun v H locs hv hP hD hS => ?_)
  refine W.eq (g2 := F0 m 1056 ls [.long (lI v.1.1), .long (lI u.1.1)]) rfl ?_
  have hE2 : eqK u.1 v.1 := by rw [show u.1 = _ from hu, show v.1 = _ from hv]; exact ek_odds (xI xs (i + 1)) (xI xs (i + 2)) (xI xs (i + 3)) T K K2 ik SB SS SN tn TB F hE
  have hZ1 : GIp (B + 61) u.1 := by rw [show u.1 = _ from hu]; exact gi_odds hG (xI_r xs (i + 1)) (xI_r xs (i + 2)) (xI_r xs (i + 3))
  have hZ2 : GIp (B + 61) v.1 := by rw [show v.1 = _ from hv]; exact gi_odds hG2 (xI_r xs (i + 1)) (xI_r xs (i + 2)) (xI_r xs (i + 3))
  exact x_eqL (tgt := 1490) hx hb hE2.1 dL_law_1056 dL_law_1057 (by decide) (kk H locs (lwI_next hE2 hZ1 hZ2 hP hD hS))
set_option maxHeartbeats 4000000 in
set_option maxRecDepth 100000 in
theorem lc_27 (C0 : lC p s m c b L xs D cI cB kS vS) (hi : i + 6 ≤ L) (hL : L ≤ 3072) (hB : B ≤ 40000) (hI : lwI D cI cB x f q kq vq h g r s B H locs) (hl : lv_has ls 4 [(0, .ref b), (1, .ref x), (2, .ref (r 0)), (3, .int (iI ((i : Nat) : Int)))])
    (kk : ∀ (H : Heap) (locs : List Loc), lwI D cI cB x f q kq vq h g r s (B + 61) H locs → W p l e room_1 s m #[Value.ref b] below meth c H locs 42 1349 Q (F0 m 1490 ls [])) : W p l e room_1 s m #[Value.ref b] below meth c H locs 42 1349 Q (F0 m 1062 ls []) := by
  obtain ⟨hx, hb, hml, hown, hts, hX0, hbl, hK, hX⟩ := C0
  have hbA : ¬ (fun q : Nat => s.heap.size ≤ q) b := Nat.not_le.mpr hbl
  obtain ⟨T, K, K2, ik, SB, SS, SN, tn, TB, F, V, jc, X, Y, j, hG, hG2, hE, hP, hD, hS⟩ := hI
  refine lv_aload_n hx hb dL_law_1062 rfl (lv_at hl 1 rfl) ?_
  refine lv_aload_n hx hb dL_law_1063 rfl (lv_at hl 0 rfl) ?_
  refine lv_iload_n hx hb dL_law_1064 rfl (lv_at hl 3 rfl) ?_
  refine x_iconst hx hb dL_law_1065 ?_
  refine x_iadd hx hb dL_law_1066 ?_
  refine x_sld hx hb hX0 hbl hbA hS (i + 1) (by omega) (by omega) hL dL_law_1067 ?_
  refine x_callV (As := [.int (iI (xI xs (i + 1)))]) (rest := []) ⟨hx, hb, hml, hown, hts⟩ (kX4_seed x f q kq vq h g T K ik SB SS SN tn TB F V jc (xI xs (i + 1)) B hG hB (xI_r xs (i + 1))) (cwV 1 hts gL_law_X4_seed rfl rfl rfl ykVX4_seed ⟨Nat.le_of_ble_eq_true rfl, Nat.le_of_ble_eq_true rfl⟩) hP hK hD hS 0 3 rfl rfl lw_e1 [0, 1, 2, 3, 4, 5, 6, 7, 8, 9, 10, 11, 12, 13, 14, 15, 16, 17, 18, 19, 20, 21, 22, 23, 24, 25, 26, 27, 28, 29, 30, 31] lw_c1 lw_n1 (fun _ => lw_f1) (fun u => wC cI cB x f q kq vq h g u.1.2 u.2.1 u.2.2 ++ wM cI r (T, K2, ik, SB, SS, SN, tn, TB, F) X Y j) (fun _ => lw_q1) rfl hl.1 rfl (Nat.le_of_ble_eq_true rfl) dL_law_1068 ⟨Nat.le_of_ble_eq_true rfl, Nat.le_of_ble_eq_true rfl⟩ (fun u H locs hu hP hD hS => ?_)
  refine W.eq (g2 := F0 m 1071 ls [.int (iI u.1.1)]) rfl ?_
  refine lv_aload_n hx hb dL_law_1071 rfl (lv_at hl 2 rfl) ?_
  refine lv_aload_n hx hb dL_law_1072 rfl (lv_at hl 0 rfl) ?_
  refine lv_iload_n hx hb dL_law_1073 rfl (lv_at hl 3 rfl) ?_
  refine x_iconst hx hb dL_law_1074 ?_
  refine x_iadd hx hb dL_law_1075 ?_
  refine x_sld hx hb hX0 hbl hbA hS (i + 1) (by omega) (by omega) hL dL_law_1076 ?_
  refine x_callV (As := [.int (iI (xI xs (i + 1)))]) (rest := [.int (iI u.1.1)]) ⟨hx, hb, hml, hown, hts⟩ (kX5_seed r T K2 ik SB SS SN tn TB F X Y j (xI xs (i + 1)) B hG2 hB (xI_r xs (i + 1))) (cwV 1 hts gL_law_X5_seed rfl rfl rfl ykVX5_seed ⟨Nat.le_of_ble_eq_true rfl, Nat.le_of_ble_eq_true rfl⟩) hP hK hD hS 32 4 rfl rfl lw_e2 [32, 33, 34, 35, 36, 37, 38, 39, 40, 41] lw_c2 lw_n2 (fun _ => lw_f2) (fun v => wC cI cB x f q kq vq h g u.1.2 u.2.1 u.2.2 ++ wM cI r v.1.2 v.2.1 v.2.2.1 v.2.2.2) (fun _ => lw_q2) rfl hl.1 rfl (Nat.le_of_ble_eq_true rfl) dL_law_1077 ⟨Nat.le_of_ble_eq_true rfl, Nat.le_of_ble_eq_true rfl⟩ (fun v H locs hv hP hD hS => ?_)
  refine W.eq (g2 := F0 m 1080 ls [.int (iI v.1.1), .int (iI u.1.1)]) rfl ?_
  have hE2 : eqK u.1 v.1 := by rw [show u.1 = _ from hu, show v.1 = _ from hv]; exact ek_seed (xI xs (i + 1)) T K K2 ik SB SS SN tn TB F hE
  have hZ1 : GIp (B + 61) u.1 := by rw [show u.1 = _ from hu]; exact gi_seed hG (xI_r xs (i + 1))
  have hZ2 : GIp (B + 61) v.1 := by rw [show v.1 = _ from hv]; exact gi_seed hG2 (xI_r xs (i + 1))
  exact x_eqI (tgt := 1490) hx hb hE2.1 dL_law_1080 (by decide) (kk H locs (lwI_next hE2 hZ1 hZ2 hP hD hS))
set_option maxHeartbeats 4000000 in
set_option maxRecDepth 100000 in
theorem lc_28 (C0 : lC p s m c b L xs D cI cB kS vS) (hi : i + 6 ≤ L) (hL : L ≤ 3072) (hB : B ≤ 40000) (hI : lwI D cI cB x f q kq vq h g r s B H locs) (hl : lv_has ls 4 [(0, .ref b), (1, .ref x), (2, .ref (r 0)), (3, .int (iI ((i : Nat) : Int)))])
    (kk : ∀ (H : Heap) (locs : List Loc), lwI D cI cB x f q kq vq h g r s (B + 61) H locs → W p l e room_1 s m #[Value.ref b] below meth c H locs 42 1349 Q (F0 m 1490 ls [])) : W p l e room_1 s m #[Value.ref b] below meth c H locs 42 1349 Q (F0 m 1085 ls []) := by
  obtain ⟨hx, hb, hml, hown, hts, hX0, hbl, hK, hX⟩ := C0
  have hbA : ¬ (fun q : Nat => s.heap.size ≤ q) b := Nat.not_le.mpr hbl
  obtain ⟨T, K, K2, ik, SB, SS, SN, tn, TB, F, V, jc, X, Y, j, hG, hG2, hE, hP, hD, hS⟩ := hI
  refine lv_aload_n hx hb dL_law_1085 rfl (lv_at hl 1 rfl) ?_
  refine lv_aload_n hx hb dL_law_1086 rfl (lv_at hl 0 rfl) ?_
  refine lv_iload_n hx hb dL_law_1087 rfl (lv_at hl 3 rfl) ?_
  refine x_iconst hx hb dL_law_1088 ?_
  refine x_iadd hx hb dL_law_1089 ?_
  refine x_sld hx hb hX0 hbl hbA hS (i + 1) (by omega) (by omega) hL dL_law_1090 ?_
  refine lv_aload_n hx hb dL_law_1091 rfl (lv_at hl 0 rfl) ?_
  refine lv_iload_n hx hb dL_law_1092 rfl (lv_at hl 3 rfl) ?_
  refine x_iconst hx hb dL_law_1093 ?_
  refine x_iadd hx hb dL_law_1094 ?_
  refine x_sld hx hb hX0 hbl hbA hS (i + 2) (by omega) (by omega) hL dL_law_1095 ?_
  refine x_callV (As := [.int (iI (xI xs (i + 1))), .int (iI (xI xs (i + 2)))]) (rest := []) ⟨hx, hb, hml, hown, hts⟩ (kX4_feed x f q kq vq h g T K ik SB SS SN tn TB F V jc (xI xs (i + 1)) (xI xs (i + 2)) B hG hB (xI_r xs (i + 1)) (xI_r xs (i + 2))) (cwV 2 hts gL_law_X4_feed rfl rfl rfl ykVX4_feed ⟨Nat.le_of_ble_eq_true rfl, Nat.le_of_ble_eq_true rfl⟩) hP hK hD hS 0 3 rfl rfl lw_e1 [0, 1, 2, 3, 4, 5, 6, 7, 8, 9, 10, 11, 12, 13, 14, 15, 16, 17, 18, 19, 20, 21, 22, 23, 24, 25, 26, 27, 28, 29, 30, 31] lw_c1 lw_n1 (fun _ => lw_f1) (fun u => wC cI cB x f q kq vq h g u.1.2 u.2.1 u.2.2 ++ wM cI r (T, K2, ik, SB, SS, SN, tn, TB, F) X Y j) (fun _ => lw_q1) rfl hl.1 rfl (Nat.le_of_ble_eq_true rfl) dL_law_1096 ⟨Nat.le_of_ble_eq_true rfl, Nat.le_of_ble_eq_true rfl⟩ (fun u H locs hu hP hD hS => ?_)
  refine W.eq (g2 := F0 m 1099 ls [.int (iI u.1.1)]) rfl ?_
  refine lv_aload_n hx hb dL_law_1099 rfl (lv_at hl 2 rfl) ?_
  refine lv_aload_n hx hb dL_law_1100 rfl (lv_at hl 0 rfl) ?_
  refine lv_iload_n hx hb dL_law_1101 rfl (lv_at hl 3 rfl) ?_
  refine x_iconst hx hb dL_law_1102 ?_
  refine x_iadd hx hb dL_law_1103 ?_
  refine x_sld hx hb hX0 hbl hbA hS (i + 1) (by omega) (by omega) hL dL_law_1104 ?_
  refine lv_aload_n hx hb dL_law_1105 rfl (lv_at hl 0 rfl) ?_
  refine lv_iload_n hx hb dL_law_1106 rfl (lv_at hl 3 rfl) ?_
  refine x_iconst hx hb dL_law_1107 ?_
  refine x_iadd hx hb dL_law_1108 ?_
  refine x_sld hx hb hX0 hbl hbA hS (i + 2) (by omega) (by omega) hL dL_law_1109 ?_
  refine x_callV (As := [.int (iI (xI xs (i + 1))), .int (iI (xI xs (i + 2)))]) (rest := [.int (iI u.1.1)]) ⟨hx, hb, hml, hown, hts⟩ (kX5_feed r T K2 ik SB SS SN tn TB F X Y j (xI xs (i + 1)) (xI xs (i + 2)) B hG2 hB (xI_r xs (i + 1)) (xI_r xs (i + 2))) (cwV 2 hts gL_law_X5_feed rfl rfl rfl ykVX5_feed ⟨Nat.le_of_ble_eq_true rfl, Nat.le_of_ble_eq_true rfl⟩) hP hK hD hS 32 4 rfl rfl lw_e2 [32, 33, 34, 35, 36, 37, 38, 39, 40, 41] lw_c2 lw_n2 (fun _ => lw_f2) (fun v => wC cI cB x f q kq vq h g u.1.2 u.2.1 u.2.2 ++ wM cI r v.1.2 v.2.1 v.2.2.1 v.2.2.2) (fun _ => lw_q2) rfl hl.1 rfl (Nat.le_of_ble_eq_true rfl) dL_law_1110 ⟨Nat.le_of_ble_eq_true rfl, Nat.le_of_ble_eq_true rfl⟩ (fun v H locs hv hP hD hS => ?_)
  refine W.eq (g2 := F0 m 1113 ls [.int (iI v.1.1), .int (iI u.1.1)]) rfl ?_
  have hE2 : eqK u.1 v.1 := by rw [show u.1 = _ from hu, show v.1 = _ from hv]; exact ek_feed (xI xs (i + 1)) (xI xs (i + 2)) T K K2 ik SB SS SN tn TB F hE
  have hZ1 : GIp (B + 61) u.1 := by rw [show u.1 = _ from hu]; exact gi_feed hG (xI_r xs (i + 1)) (xI_r xs (i + 2))
  have hZ2 : GIp (B + 61) v.1 := by rw [show v.1 = _ from hv]; exact gi_feed hG2 (xI_r xs (i + 1)) (xI_r xs (i + 2))
  exact x_eqI (tgt := 1490) hx hb hE2.1 dL_law_1113 (by decide) (kk H locs (lwI_next hE2 hZ1 hZ2 hP hD hS))
set_option maxHeartbeats 4000000 in
set_option maxRecDepth 100000 in
theorem lc_29 (C0 : lC p s m c b L xs D cI cB kS vS) (hi : i + 6 ≤ L) (hL : L ≤ 3072) (hB : B ≤ 40000) (hI : lwI D cI cB x f q kq vq h g r s B H locs) (hl : lv_has ls 4 [(0, .ref b), (1, .ref x), (2, .ref (r 0)), (3, .int (iI ((i : Nat) : Int)))])
    (kk : ∀ (H : Heap) (locs : List Loc), lwI D cI cB x f q kq vq h g r s (B + 61) H locs → W p l e room_1 s m #[Value.ref b] below meth c H locs 42 1349 Q (F0 m 1490 ls [])) : W p l e room_1 s m #[Value.ref b] below meth c H locs 42 1349 Q (F0 m 1118 ls []) := by
  obtain ⟨hx, hb, hml, hown, hts, hX0, hbl, hK, hX⟩ := C0
  have hbA : ¬ (fun q : Nat => s.heap.size ≤ q) b := Nat.not_le.mpr hbl
  obtain ⟨T, K, K2, ik, SB, SS, SN, tn, TB, F, V, jc, X, Y, j, hG, hG2, hE, hP, hD, hS⟩ := hI
  refine lv_aload_n hx hb dL_law_1118 rfl (lv_at hl 1 rfl) ?_
  refine x_callV (As := []) (rest := []) ⟨hx, hb, hml, hown, hts⟩ (kX4_wipe x f q kq vq h g T K ik SB SS SN tn TB F V jc  B hG hB ) (cwV 0 hts gL_law_X4_wipe rfl rfl rfl ykVX4_wipe ⟨Nat.le_of_ble_eq_true rfl, Nat.le_of_ble_eq_true rfl⟩) hP hK hD hS 0 3 rfl rfl lw_e1 [0, 1, 2, 3, 4, 5, 6, 7, 8, 9, 10, 11, 12, 13, 14, 15, 16, 17, 18, 19, 20, 21, 22, 23, 24, 25, 26, 27, 28, 29, 30, 31] lw_c1 lw_n1 (fun _ => lw_f1) (fun u => wC cI cB x f q kq vq h g u.1.2 u.2.1 u.2.2 ++ wM cI r (T, K2, ik, SB, SS, SN, tn, TB, F) X Y j) (fun _ => lw_q1) rfl hl.1 rfl (Nat.le_of_ble_eq_true rfl) dL_law_1119 ⟨Nat.le_of_ble_eq_true rfl, Nat.le_of_ble_eq_true rfl⟩ (fun u H locs hu hP hD hS => ?_)
  refine W.eq (g2 := F0 m 1122 ls [.int (iI u.1.1)]) rfl ?_
  refine lv_aload_n hx hb dL_law_1122 rfl (lv_at hl 2 rfl) ?_
  refine x_callV (As := []) (rest := [.int (iI u.1.1)]) ⟨hx, hb, hml, hown, hts⟩ (kX5_wipe r T K2 ik SB SS SN tn TB F X Y j  B hG2 hB ) (cwV 0 hts gL_law_X5_wipe rfl rfl rfl ykVX5_wipe ⟨Nat.le_of_ble_eq_true rfl, Nat.le_of_ble_eq_true rfl⟩) hP hK hD hS 32 4 rfl rfl lw_e2 [32, 33, 34, 35, 36, 37, 38, 39, 40, 41] lw_c2 lw_n2 (fun _ => lw_f2) (fun v => wC cI cB x f q kq vq h g u.1.2 u.2.1 u.2.2 ++ wM cI r v.1.2 v.2.1 v.2.2.1 v.2.2.2) (fun _ => lw_q2) rfl hl.1 rfl (Nat.le_of_ble_eq_true rfl) dL_law_1123 ⟨Nat.le_of_ble_eq_true rfl, Nat.le_of_ble_eq_true rfl⟩ (fun v H locs hv hP hD hS => ?_)
  refine W.eq (g2 := F0 m 1126 ls [.int (iI v.1.1), .int (iI u.1.1)]) rfl ?_
  have hE2 : eqK u.1 v.1 := by rw [show u.1 = _ from hu, show v.1 = _ from hv]; exact ek_wipe  T K K2 ik SB SS SN tn TB F hE
  have hZ1 : GIp (B + 61) u.1 := by rw [show u.1 = _ from hu]; exact gi_wipe hG 
  have hZ2 : GIp (B + 61) v.1 := by rw [show v.1 = _ from hv]; exact gi_wipe hG2 
  exact x_eqI (tgt := 1490) hx hb hE2.1 dL_law_1126 (by decide) (kk H locs (lwI_next hE2 hZ1 hZ2 hP hD hS))
set_option maxHeartbeats 4000000 in
set_option maxRecDepth 100000 in
theorem lc_30 (C0 : lC p s m c b L xs D cI cB kS vS) (hi : i + 6 ≤ L) (hL : L ≤ 3072) (hB : B ≤ 40000) (hI : lwI D cI cB x f q kq vq h g r s B H locs) (hl : lv_has ls 4 [(0, .ref b), (1, .ref x), (2, .ref (r 0)), (3, .int (iI ((i : Nat) : Int)))])
    (kk : ∀ (H : Heap) (locs : List Loc), lwI D cI cB x f q kq vq h g r s (B + 61) H locs → W p l e room_1 s m #[Value.ref b] below meth c H locs 42 1349 Q (F0 m 1490 ls [])) : W p l e room_1 s m #[Value.ref b] below meth c H locs 42 1349 Q (F0 m 1131 ls []) := by
  obtain ⟨hx, hb, hml, hown, hts, hX0, hbl, hK, hX⟩ := C0
  have hbA : ¬ (fun q : Nat => s.heap.size ≤ q) b := Nat.not_le.mpr hbl
  obtain ⟨T, K, K2, ik, SB, SS, SN, tn, TB, F, V, jc, X, Y, j, hG, hG2, hE, hP, hD, hS⟩ := hI
  refine lv_aload_n hx hb dL_law_1131 rfl (lv_at hl 1 rfl) ?_
  refine x_callVS (As := []) (rest := []) ⟨hx, hb, hml, hown, hts⟩ (kX4_text x f q kq vq h g T K ik SB SS SN tn TB F V jc  B hG hB ) (cwV 0 hts gL_law_X4_text rfl rfl rfl ykVX4_text ⟨Nat.le_of_ble_eq_true rfl, Nat.le_of_ble_eq_true rfl⟩) hP hK hD hS hX 0 3 rfl rfl lw_e1 [0, 1, 2, 3, 4, 5, 6, 7, 8, 9, 10, 11, 12, 13, 14, 15, 16, 17, 18, 19, 20, 21, 22, 23, 24, 25, 26, 27, 28, 29, 30, 31] lw_c1 lw_n1 (fun _ => lw_f1) (fun u => wC cI cB x f q kq vq h g u.1.2 u.2.1 u.2.2 ++ wM cI r (T, K2, ik, SB, SS, SN, tn, TB, F) X Y j) (fun _ => lw_q1) rfl hl.1 rfl (Nat.le_of_ble_eq_true rfl) dL_law_1132 ⟨Nat.le_of_ble_eq_true rfl, Nat.le_of_ble_eq_true rfl⟩ (fun u H locs hu hP hD hS => ?_)
  refine W.eq (g2 := F0 m 1135 ls [.int (iI u.1.1)]) rfl ?_
  refine lv_aload_n hx hb dL_law_1135 rfl (lv_at hl 2 rfl) ?_
  refine x_callV (As := []) (rest := [.int (iI u.1.1)]) ⟨hx, hb, hml, hown, hts⟩ (kX5_text r T K2 ik SB SS SN tn TB F X Y j  B hG2 hB ) (cwV 0 hts gL_law_X5_text rfl rfl rfl ykVX5_text ⟨Nat.le_of_ble_eq_true rfl, Nat.le_of_ble_eq_true rfl⟩) hP hK hD hS 32 4 rfl rfl lw_e2 [32, 33, 34, 35, 36, 37, 38, 39, 40, 41] lw_c2 lw_n2 (fun _ => lw_f2) (fun v => wC cI cB x f q kq vq h g u.1.2 u.2.1 u.2.2 ++ wM cI r v.1.2 v.2.1 v.2.2.1 v.2.2.2) (fun _ => lw_q2) rfl hl.1 rfl (Nat.le_of_ble_eq_true rfl) dL_law_1136 ⟨Nat.le_of_ble_eq_true rfl, Nat.le_of_ble_eq_true rfl⟩ (fun v H locs hv hP hD hS => ?_)
  refine W.eq (g2 := F0 m 1139 ls [.int (iI v.1.1), .int (iI u.1.1)]) rfl ?_
  have hE2 : eqK u.1 v.1 := by rw [show u.1 = _ from hu, show v.1 = _ from hv]; exact ek_text  T K K2 ik SB SS SN tn TB F hE
  have hZ1 : GIp (B + 61) u.1 := by rw [show u.1 = _ from hu]; exact gi_text hG 
  have hZ2 : GIp (B + 61) v.1 := by rw [show v.1 = _ from hv]; exact gi_text hG2 
  exact x_eqI (tgt := 1490) hx hb hE2.1 dL_law_1139 (by decide) (kk H locs (lwI_next hE2 hZ1 hZ2 hP hD hS))
set_option maxHeartbeats 4000000 in
set_option maxRecDepth 100000 in
theorem lc_31 (C0 : lC p s m c b L xs D cI cB kS vS) (hi : i + 6 ≤ L) (hL : L ≤ 3072) (hB : B ≤ 40000) (hI : lwI D cI cB x f q kq vq h g r s B H locs) (hl : lv_has ls 4 [(0, .ref b), (1, .ref x), (2, .ref (r 0)), (3, .int (iI ((i : Nat) : Int)))])
    (kk : ∀ (H : Heap) (locs : List Loc), lwI D cI cB x f q kq vq h g r s (B + 61) H locs → W p l e room_1 s m #[Value.ref b] below meth c H locs 42 1349 Q (F0 m 1490 ls [])) : W p l e room_1 s m #[Value.ref b] below meth c H locs 42 1349 Q (F0 m 1144 ls []) := by
  obtain ⟨hx, hb, hml, hown, hts, hX0, hbl, hK, hX⟩ := C0
  have hbA : ¬ (fun q : Nat => s.heap.size ≤ q) b := Nat.not_le.mpr hbl
  obtain ⟨T, K, K2, ik, SB, SS, SN, tn, TB, F, V, jc, X, Y, j, hG, hG2, hE, hP, hD, hS⟩ := hI
  refine lv_aload_n hx hb dL_law_1144 rfl (lv_at hl 1 rfl) ?_
  refine lv_aload_n hx hb dL_law_1145 rfl (lv_at hl 0 rfl) ?_
  refine lv_iload_n hx hb dL_law_1146 rfl (lv_at hl 3 rfl) ?_
  refine x_iconst hx hb dL_law_1147 ?_
  refine x_iadd hx hb dL_law_1148 ?_
  refine x_sld hx hb hX0 hbl hbA hS (i + 1) (by omega) (by omega) hL dL_law_1149 ?_
  refine lv_aload_n hx hb dL_law_1150 rfl (lv_at hl 0 rfl) ?_
  refine lv_iload_n hx hb dL_law_1151 rfl (lv_at hl 3 rfl) ?_
  refine x_iconst hx hb dL_law_1152 ?_
  refine x_iadd hx hb dL_law_1153 ?_
  refine x_sld hx hb hX0 hbl hbA hS (i + 2) (by omega) (by omega) hL dL_law_1154 ?_
  refine x_callV (As := [.int (iI (xI xs (i + 1))), .int (iI (xI xs (i + 2)))]) (rest := []) ⟨hx, hb, hml, hown, hts⟩ (kX4_hold x f q kq vq h g T K ik SB SS SN tn TB F V jc (xI xs (i + 1)) (xI xs (i + 2)) B hG hB (xI_r xs (i + 1)) (xI_r xs (i + 2))) (cwV 2 hts gL_law_X4_hold rfl rfl rfl ykVX4_hold ⟨Nat.le_of_ble_eq_true rfl, Nat.le_of_ble_eq_true rfl⟩) hP hK hD hS 0 3 rfl rfl lw_e1 [0, 1, 2, 3, 4, 5, 6, 7, 8, 9, 10, 11, 12, 13, 14, 15, 16, 17, 18, 19, 20, 21, 22, 23, 24, 25, 26, 27, 28, 29, 30, 31] lw_c1 lw_n1 (fun _ => lw_f1) (fun u => wC cI cB x f q kq vq h g u.1.2 u.2.1 u.2.2 ++ wM cI r (T, K2, ik, SB, SS, SN, tn, TB, F) X Y j) (fun _ => lw_q1) rfl hl.1 rfl (Nat.le_of_ble_eq_true rfl) dL_law_1155 ⟨Nat.le_of_ble_eq_true rfl, Nat.le_of_ble_eq_true rfl⟩ (fun u H locs hu hP hD hS => ?_)
  refine W.eq (g2 := F0 m 1158 ls [.int (iI u.1.1)]) rfl ?_
  refine lv_aload_n hx hb dL_law_1158 rfl (lv_at hl 2 rfl) ?_
  refine lv_aload_n hx hb dL_law_1159 rfl (lv_at hl 0 rfl) ?_
  refine lv_iload_n hx hb dL_law_1160 rfl (lv_at hl 3 rfl) ?_
  refine x_iconst hx hb dL_law_1161 ?_
  refine x_iadd hx hb dL_law_1162 ?_
  refine x_sld hx hb hX0 hbl hbA hS (i + 1) (by omega) (by omega) hL dL_law_1163 ?_
  refine lv_aload_n hx hb dL_law_1164 rfl (lv_at hl 0 rfl) ?_
  refine lv_iload_n hx hb dL_law_1165 rfl (lv_at hl 3 rfl) ?_
  refine x_iconst hx hb dL_law_1166 ?_
  refine x_iadd hx hb dL_law_1167 ?_
  refine x_sld hx hb hX0 hbl hbA hS (i + 2) (by omega) (by omega) hL dL_law_1168 ?_
  refine x_callV (As := [.int (iI (xI xs (i + 1))), .int (iI (xI xs (i + 2)))]) (rest := [.int (iI u.1.1)]) ⟨hx, hb, hml, hown, hts⟩ (kX5_hold r T K2 ik SB SS SN tn TB F X Y j (xI xs (i + 1)) (xI xs (i + 2)) B hG2 hB (xI_r xs (i + 1)) (xI_r xs (i + 2))) (cwV 2 hts gL_law_X5_hold rfl rfl rfl ykVX5_hold ⟨Nat.le_of_ble_eq_true rfl, Nat.le_of_ble_eq_true rfl⟩) hP hK hD hS 32 4 rfl rfl lw_e2 [32, 33, 34, 35, 36, 37, 38, 39, 40, 41] lw_c2 lw_n2 (fun _ => lw_f2) (fun v => wC cI cB x f q kq vq h g u.1.2 u.2.1 u.2.2 ++ wM cI r v.1.2 v.2.1 v.2.2.1 v.2.2.2) (fun _ => lw_q2) rfl hl.1 rfl (Nat.le_of_ble_eq_true rfl) dL_law_1169 ⟨Nat.le_of_ble_eq_true rfl, Nat.le_of_ble_eq_true rfl⟩ (fun v H locs hv hP hD hS => ?_)
  refine W.eq (g2 := F0 m 1172 ls [.int (iI v.1.1), .int (iI u.1.1)]) rfl ?_
  have hE2 : eqK u.1 v.1 := by rw [show u.1 = _ from hu, show v.1 = _ from hv]; exact ek_hold (xI xs (i + 1)) (xI xs (i + 2)) T K K2 ik SB SS SN tn TB F hE
  have hZ1 : GIp (B + 61) u.1 := by rw [show u.1 = _ from hu]; exact gi_hold hG (xI_r xs (i + 1)) (xI_r xs (i + 2))
  have hZ2 : GIp (B + 61) v.1 := by rw [show v.1 = _ from hv]; exact gi_hold hG2 (xI_r xs (i + 1)) (xI_r xs (i + 2))
  exact x_eqI (tgt := 1490) hx hb hE2.1 dL_law_1172 (by decide) (kk H locs (lwI_next hE2 hZ1 hZ2 hP hD hS))
set_option maxHeartbeats 4000000 in
set_option maxRecDepth 100000 in
theorem lc_32 (C0 : lC p s m c b L xs D cI cB kS vS) (hi : i + 6 ≤ L) (hL : L ≤ 3072) (hB : B ≤ 40000) (hI : lwI D cI cB x f q kq vq h g r s B H locs) (hl : lv_has ls 4 [(0, .ref b), (1, .ref x), (2, .ref (r 0)), (3, .int (iI ((i : Nat) : Int)))])
    (kk : ∀ (H : Heap) (locs : List Loc), lwI D cI cB x f q kq vq h g r s (B + 61) H locs → W p l e room_1 s m #[Value.ref b] below meth c H locs 42 1349 Q (F0 m 1490 ls [])) : W p l e room_1 s m #[Value.ref b] below meth c H locs 42 1349 Q (F0 m 1177 ls []) := by
  obtain ⟨hx, hb, hml, hown, hts, hX0, hbl, hK, hX⟩ := C0
  have hbA : ¬ (fun q : Nat => s.heap.size ≤ q) b := Nat.not_le.mpr hbl
  obtain ⟨T, K, K2, ik, SB, SS, SN, tn, TB, F, V, jc, X, Y, j, hG, hG2, hE, hP, hD, hS⟩ := hI
  refine lv_aload_n hx hb dL_law_1177 rfl (lv_at hl 1 rfl) ?_
  refine lv_aload_n hx hb dL_law_1178 rfl (lv_at hl 0 rfl) ?_
  refine lv_iload_n hx hb dL_law_1179 rfl (lv_at hl 3 rfl) ?_
  refine x_iconst hx hb dL_law_1180 ?_
  refine x_iadd hx hb dL_law_1181 ?_
  refine x_sld hx hb hX0 hbl hbA hS (i + 1) (by omega) (by omega) hL dL_law_1182 ?_
  refine lv_aload_n hx hb dL_law_1183 rfl (lv_at hl 0 rfl) ?_
  refine lv_iload_n hx hb dL_law_1184 rfl (lv_at hl 3 rfl) ?_
  refine x_iconst hx hb dL_law_1185 ?_
  refine x_iadd hx hb dL_law_1186 ?_
  refine x_sld hx hb hX0 hbl hbA hS (i + 2) (by omega) (by omega) hL dL_law_1187 ?_
  refine x_callV (As := [.int (iI (xI xs (i + 1))), .int (iI (xI xs (i + 2)))]) (rest := []) ⟨hx, hb, hml, hown, hts⟩ (kX4_as x f q kq vq h g T K ik SB SS SN tn TB F V jc (xI xs (i + 1)) (xI xs (i + 2)) B hG hB (xI_r xs (i + 1)) (xI_r xs (i + 2))) (cwV 2 hts gL_law_X4_as rfl rfl rfl ykVX4_as ⟨Nat.le_of_ble_eq_true rfl, Nat.le_of_ble_eq_true rfl⟩) hP hK hD hS 0 3 rfl rfl lw_e1 [0, 1, 2, 3, 4, 5, 6, 7, 8, 9, 10, 11, 12, 13, 14, 15, 16, 17, 18, 19, 20, 21, 22, 23, 24, 25, 26, 27, 28, 29, 30, 31] lw_c1 lw_n1 (fun _ => lw_f1) (fun u => wC cI cB x f q kq vq h g u.1.2 u.2.1 u.2.2 ++ wM cI r (T, K2, ik, SB, SS, SN, tn, TB, F) X Y j) (fun _ => lw_q1) rfl hl.1 rfl (Nat.le_of_ble_eq_true rfl) dL_law_1188 ⟨Nat.le_of_ble_eq_true rfl, Nat.le_of_ble_eq_true rfl⟩ (fun u H locs hu hP hD hS => ?_)
  refine W.eq (g2 := F0 m 1191 ls [.int (iI u.1.1)]) rfl ?_
  refine lv_aload_n hx hb dL_law_1191 rfl (lv_at hl 2 rfl) ?_
  refine lv_aload_n hx hb dL_law_1192 rfl (lv_at hl 0 rfl) ?_
  refine lv_iload_n hx hb dL_law_1193 rfl (lv_at hl 3 rfl) ?_
  refine x_iconst hx hb dL_law_1194 ?_
  refine x_iadd hx hb dL_law_1195 ?_
  refine x_sld hx hb hX0 hbl hbA hS (i + 1) (by omega) (by omega) hL dL_law_1196 ?_
  refine lv_aload_n hx hb dL_law_1197 rfl (lv_at hl 0 rfl) ?_
  refine lv_iload_n hx hb dL_law_1198 rfl (lv_at hl 3 rfl) ?_
  refine x_iconst hx hb dL_law_1199 ?_
  refine x_iadd hx hb dL_law_1200 ?_
  refine x_sld hx hb hX0 hbl hbA hS (i + 2) (by omega) (by omega) hL dL_law_1201 ?_
  refine x_callV (As := [.int (iI (xI xs (i + 1))), .int (iI (xI xs (i + 2)))]) (rest := [.int (iI u.1.1)]) ⟨hx, hb, hml, hown, hts⟩ (kX5_as r T K2 ik SB SS SN tn TB F X Y j (xI xs (i + 1)) (xI xs (i + 2)) B hG2 hB (xI_r xs (i + 1)) (xI_r xs (i + 2))) (cwV 2 hts gL_law_X5_as rfl rfl rfl ykVX5_as ⟨Nat.le_of_ble_eq_true rfl, Nat.le_of_ble_eq_true rfl⟩) hP hK hD hS 32 4 rfl rfl lw_e2 [32, 33, 34, 35, 36, 37, 38, 39, 40, 41] lw_c2 lw_n2 (fun _ => lw_f2) (fun v => wC cI cB x f q kq vq h g u.1.2 u.2.1 u.2.2 ++ wM cI r v.1.2 v.2.1 v.2.2.1 v.2.2.2) (fun _ => lw_q2) rfl hl.1 rfl (Nat.le_of_ble_eq_true rfl) dL_law_1202 ⟨Nat.le_of_ble_eq_true rfl, Nat.le_of_ble_eq_true rfl⟩ (fun v H locs hv hP hD hS => ?_)
  refine W.eq (g2 := F0 m 1205 ls [.int (iI v.1.1), .int (iI u.1.1)]) rfl ?_
  have hE2 : eqK u.1 v.1 := by rw [show u.1 = _ from hu, show v.1 = _ from hv]; exact ek_as (xI xs (i + 1)) (xI xs (i + 2)) T K K2 ik SB SS SN tn TB F hE
  have hZ1 : GIp (B + 61) u.1 := by rw [show u.1 = _ from hu]; exact gi_as hG (xI_r xs (i + 1)) (xI_r xs (i + 2))
  have hZ2 : GIp (B + 61) v.1 := by rw [show v.1 = _ from hv]; exact gi_as hG2 (xI_r xs (i + 1)) (xI_r xs (i + 2))
  exact x_eqI (tgt := 1490) hx hb hE2.1 dL_law_1205 (by decide) (kk H locs (lwI_next hE2 hZ1 hZ2 hP hD hS))
end LWC2
