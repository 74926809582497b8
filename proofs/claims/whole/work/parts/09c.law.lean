/-! the law: cases -/
section LWC1
variable {p : Program} {l : Launch} {e : Env} {s : State} {m : MethodId} {below : List Frame} {meth : Method} {c : Code} {H : Heap} {locs : List Loc} {Q : State → Prop}
variable {ls : Array Slot} {D : va_G} {cI cB : ClassId} {kS vS : Nat → Nat} {x f : Nat} {q kq vq h g r : Nat → Nat} {b L : Nat} {xs : Nat → Int32} {i : Nat} {B : Int}
set_option maxHeartbeats 4000000 in
set_option maxRecDepth 100000 in
theorem lc_11 (C0 : lC p s m c b L xs D cI cB kS vS) (hi : i + 6 ≤ L) (hL : L ≤ 3072) (hB : B ≤ 40000) (hI : lwI D cI cB x f q kq vq h g r s B H locs) (hl : lv_has ls 4 [(0, .ref b), (1, .ref x), (2, .ref (r 0)), (3, .int (iI ((i : Nat) : Int)))])
    (kk : ∀ (H : Heap) (locs : List Loc), lwI D cI cB x f q kq vq h g r s (B + 61) H locs → W p l e room_1 s m #[Value.ref b] below meth c H locs 42 1349 Q (F0 m 1490 ls [])) : W p l e room_1 s m #[Value.ref b] below meth c H locs 42 1349 Q (F0 m 563 ls []) := by
  obtain ⟨hx, hb, hml, hown, hts, hX0, hbl, hK, hX⟩ := C0
  have hbA : ¬ (fun q : Nat => s.heap.size ≤ q) b := Nat.not_le.mpr hbl
  obtain ⟨T, K, K2, ik, SB, SS, SN, tn, TB, F, V, jc, X, Y, j, hG, hG2, hE, hP, hD, hS⟩ := hI
  refine lv_aload_n hx hb dL_law_563 rfl (lv_at hl 1 rfl) ?_
  refine lv_aload_n hx hb dL_law_564 rfl (lv_at hl 0 rfl) ?_
  refine lv_iload_n hx hb dL_law_565 rfl (lv_at hl 3 rfl) ?_
  refine x_iconst hx hb dL_law_566 ?_
  refine x_iadd hx hb dL_law_567 ?_
  refine x_sld hx hb hX0 hbl hbA hS (i + 1) (by omega) (by omega) hL dL_law_568 ?_
  refine x_callV (As := [.int (iI (xI xs (i + 1)))]) (rest := []) ⟨hx, hb, hml, hown, hts⟩ (kX4_now x f q kq vq h g T K ik SB SS SN tn TB F V jc (xI xs (i + 1)) B hG hB (xI_r xs (i + 1))) (cwV 1 hts gL_law_X4_now rfl rfl rfl ykVX4_now ⟨Nat.le_of_ble_eq_true rfl, Nat.le_of_ble_eq_true rfl⟩) hP hK hD hS 0 3 rfl rfl lw_e1 [0, 1, 2, 3, 4, 5, 6, 7, 8, 9, 10, 11, 12, 13, 14, 15, 16, 17, 18, 19, 20, 21, 22, 23, 24, 25, 26, 27, 28, 29, 30, 31] lw_c1 lw_n1 (fun _ => lw_f1) (fun u => wC cI cB x f q kq vq h g u.1.2 u.2.1 u.2.2 ++ wM cI r (T, K2, ik, SB, SS, SN, tn, TB, F) X Y j) (fun _ => lw_q1) rfl hl.1 rfl (Nat.le_of_ble_eq_true rfl) dL_law_569 ⟨Nat.le_of_ble_eq_true rfl, Nat.le_of_ble_eq_true rfl⟩ (fun u H locs hu hP hD hS => ?_)
  refine W.eq (g2 := F0 m 572 ls [.int (iI u.1.1)]) rfl ?_
  refine lv_aload_n hx hb dL_law_572 rfl (lv_at hl 2 rfl) ?_
  refine lv_aload_n hx hb dL_law_573 rfl (lv_at hl 0 rfl) ?_
  refine lv_iload_n hx hb dL_law_574 rfl (lv_at hl 3 rfl) ?_
  refine x_iconst hx hb dL_law_575 ?_
  refine x_iadd hx hb dL_law_576 ?_
  refine x_sld hx hb hX0 hbl hbA hS (i + 1) (by omega) (by omega) hL dL_law_577 ?_
  refine x_callV (As := [.int (iI (xI xs (i + 1)))]) (rest := [.int (iI u.1.1)]) ⟨hx, hb, hml, hown, hts⟩ (kX5_now r T K2 ik SB SS SN tn TB F X Y j (xI xs (i + 1)) B hG2 hB (xI_r xs (i + 1))) (cwV 1 hts gL_law_X5_now rfl rfl rfl ykVX5_now ⟨Nat.le_of_ble_eq_true rfl, Nat.le_of_ble_eq_true rfl⟩) hP hK hD hS 32 4 rfl rfl lw_e2 [32, 33, 34, 35, 36, 37, 38, 39, 40, 41] lw_c2 lw_n2 (fun _ => lw_f2) (fun v => wC cI cB x f q kq vq h g u.1.2 u.2.1 u.2.2 ++ wM cI r v.1.2 v.2.1 v.2.2.1 v.2.2.2) (fun _ => lw_q2) rfl hl.1 rfl (Nat.le_of_ble_eq_true rfl) dL_law_578 ⟨Nat.le_of_ble_eq_true rfl, Nat.le_of_ble_eq_true rfl⟩ (fun v H locs hv hP hD hS => ?_)
  refine W.eq (g2 := F0 m 581 ls [.int (iI v.1.1), .int (iI u.1.1)]) rfl ?_
  have hE2 : eqK u.1 v.1 := by rw [show u.1 = _ from hu, show v.1 = _ from hv]; exact ek_now (xI xs (i + 1)) T K K2 ik SB SS SN tn TB F hE
  have hZ1 : GIp (B + 61) u.1 := by rw [show u.1 = _ from hu]; exact gi_now hG (xI_r xs (i + 1))
  have hZ2 : GIp (B + 61) v.1 := by rw [show v.1 = _ from hv]; exact gi_now hG2 (xI_r xs (i + 1))
  exact x_eqI (tgt := 1490) hx hb hE2.1 dL_law_581 (by decide) (kk H locs (lwI_next hE2 hZ1 hZ2 hP hD hS))
set_option maxHeartbeats 4000000 in
set_option maxRecDepth 100000 in
theorem lc_12 (C0 : lC p s m c b L xs D cI cB kS vS) (hi : i + 6 ≤ L) (hL : L ≤ 3072) (hB : B ≤ 40000) (hI : lwI D cI cB x f q kq vq h g r s B H locs) (hl : lv_has ls 4 [(0, .ref b), (1, .ref x), (2, .ref (r 0)), (3, .int (iI ((i : Nat) : Int)))])
    (kk : ∀ (H : Heap) (locs : List Loc), lwI D cI cB x f q kq vq h g r s (B + 61) H locs → W p l e room_1 s m #[Value.ref b] below meth c H locs 42 1349 Q (F0 m 1490 ls [])) : W p l e room_1 s m #[Value.ref b] below meth c H locs 42 1349 Q (F0 m 586 ls []) := by
  obtain ⟨hx, hb, hml, hown, hts, hX0, hbl, hK, hX⟩ := C0
  have hbA : ¬ (fun q : Nat => s.heap.size ≤ q) b := Nat.not_le.mpr hbl
  obtain ⟨T, K, K2, ik, SB, SS, SN, tn, TB, F, V, jc, X, Y, j, hG, hG2, hE, hP, hD, hS⟩ := hI
  refine lv_aload_n hx hb dL_law_586 rfl (lv_at hl 1 rfl) ?_
  refine lv_aload_n hx hb dL_law_587 rfl (lv_at hl 0 rfl) ?_
  refine lv_iload_n hx hb dL_law_588 rfl (lv_at hl 3 rfl) ?_
  refine x_iconst hx hb dL_law_589 ?_
  refine x_iadd hx hb dL_law_590 ?_
  refine x_sld hx hb hX0 hbl hbA hS (i + 1) (by omega) (by omega) hL dL_law_591 ?_
  refine lv_aload_n hx hb dL_law_592 rfl (lv_at hl 0 rfl) ?_
  refine lv_iload_n hx hb dL_law_593 rfl (lv_at hl 3 rfl) ?_
  refine x_iconst hx hb dL_law_594 ?_
  refine x_iadd hx hb dL_law_595 ?_
  refine x_sld hx hb hX0 hbl hbA hS (i + 2) (by omega) (by omega) hL dL_law_596 ?_
  refine lv_aload_n hx hb dL_law_597 rfl (lv_at hl 0 rfl) ?_
  refine lv_iload_n hx hb dL_law_598 rfl (lv_at hl 3 rfl) ?_
  refine x_iconst hx hb dL_law_599 ?_
  refine x_iadd hx hb dL_law_600 ?_
  refine x_sld hx hb hX0 hbl hbA hS (i + 3) (by omega) (by omega) hL dL_law_601 ?_
  refine x_callV (As := [.int (iI (xI xs (i + 1))), .int (iI (xI xs (i + 2))), .int (iI (xI xs (i + 3)))]) (rest := []) ⟨hx, hb, hml, hown, hts⟩ (kX4_ahead x f q kq vq h g T K ik SB SS SN tn TB F V jc (xI xs (i + 1)) (xI xs (i + 2)) (xI xs (i + 3)) B hG hB (xI_r xs (i + 1)) (xI_r xs (i + 2)) (xI_r xs (i + 3))) (cwV 3 hts gL_law_X4_ahead rfl rfl rfl ykVX4_ahead ⟨Nat.le_of_ble_eq_true rfl, Nat.le_of_ble_eq_true rfl⟩) hP hK hD hS 0 3 rfl rfl lw_e1 [0, 1, 2, 3, 4, 5, 6, 7, 8, 9, 10, 11, 12, 13, 14, 15, 16, 17, 18, 19, 20, 21, 22, 23, 24, 25, 26, 27, 28, 29, 30, 31] lw_c1 lw_n1 (fun _ => lw_f1) (fun u => wC cI cB x f q kq vq h g u.1.2 u.2.1 u.2.2 ++ wM cI r (T, K2, ik, SB, SS, SN, tn, TB, F) X Y j) (fun _ => lw_q1) rfl hl.1 rfl (Nat.le_of_ble_eq_true rfl) dL_law_602 ⟨Nat.le_of_ble_eq_true rfl, Nat.le_of_ble_eq_true rfl⟩ (fun u H locs hu hP hD hS => ?_)
  refine W.eq (g2 := F0 m 605 ls [.int (iI u.1.1)]) rfl ?_
  refine lv_aload_n hx hb dL_law_605 rfl (lv_at hl 2 rfl) ?_
  refine lv_aload_n hx hb dL_law_606 rfl (lv_at hl 0 rfl) ?_
  refine lv_iload_n hx hb dL_law_607 rfl (lv_at hl 3 rfl) ?_
  refine x_iconst hx hb dL_law_608 ?_
  refine x_iadd hx hb dL_law_609 ?_
  refine x_sld hx hb hX0 hbl hbA hS (i + 1) (by omega) (by omega) hL dL_law_610 ?_
  refine lv_aload_n hx hb dL_law_611 rfl (lv_at hl 0 rfl) ?_
  refine lv_iload_n hx hb dL_law_612 rfl (lv_at hl 3 rfl) ?_
  refine x_iconst hx hb dL_law_613 ?_
  refine x_iadd hx hb dL_law_614 ?_
  refine x_sld hx hb hX0 hbl hbA hS (i + 2) (by omega) (by omega) hL dL_law_615 ?_
  refine lv_aload_n hx hb dL_law_616 rfl (lv_at hl 0 rfl) ?_
  refine lv_iload_n hx hb dL_law_617 rfl (lv_at hl 3 rfl) ?_
  refine x_iconst hx hb dL_law_618 ?_
  refine x_iadd hx hb dL_law_619 ?_
  refine x_sld hx hb hX0 hbl hbA hS (i + 3) (by omega) (by omega) hL dL_law_620 ?_
  refine x_callV (As := [.int (iI (xI xs (i + 1))), .int (iI (xI xs (i + 2))), .int (iI (xI xs (i + 3)))]) (rest := [.int (iI u.1.1)]) ⟨hx, hb, hml, hown, hts⟩ (kX5_ahead r T K2 ik SB SS SN tn TB F X Y j (xI xs (i + 1)) (xI xs (i + 2)) (xI xs (i + 3)) B hG2 hB (xI_r xs (i + 1)) (xI_r xs (i + 2)) (xI_r xs (i + 3))) (cwV 3 hts gL_law_X5_ahead rfl rfl rfl ykVX5_ahead ⟨Nat.le_of_ble_eq_true rfl, Nat.le_of_ble_eq_true rfl⟩) hP hK hD hS 32 4 rfl rfl lw_e2 [32, 33, 34, 35, 36, 37, 38, 39, 40, 41] lw_c2 lw_n2 (fun _ => lw_f2) (fun v => wC cI cB x f q kq vq h g u.1.2 u.2.1 u.2.2 ++ wM cI r v.1.2 v.2.1 v.2.2.1 v.2.2.2) (fun _ => lw_q2) rfl hl.1 rfl (Nat.le_of_ble_eq_true rfl) dL_law_621 ⟨Nat.le_of_ble_eq_true rfl, Nat.le_of_ble_eq_true rfl⟩ (fun v H locs hv hP hD hS => ?_)
  refine W.eq (g2 := F0 m 624 ls [.int (iI v.1.1), .int (iI u.1.1)]) rfl ?_
  have hE2 : eqK u.1 v.1 := by rw [show u.1 = _ from hu, show v.1 = _ from hv]; exact ek_ahead (xI xs (i + 1)) (xI xs (i + 2)) (xI xs (i + 3)) T K K2 ik SB SS SN tn TB F hE
  have hZ1 : GIp (B + 61) u.1 := by rw [show u.1 = _ from hu]; exact gi_ahead hG (xI_r xs (i + 1)) (xI_r xs (i + 2)) (xI_r xs (i + 3))
  have hZ2 : GIp (B + 61) v.1 := by rw [show v.1 = _ from hv]; exact gi_ahead hG2 (xI_r xs (i + 1)) (xI_r xs (i + 2)) (xI_r xs (i + 3))
  exact x_eqI (tgt := 1490) hx hb hE2.1 dL_law_624 (by decide) (kk H locs (lwI_next hE2 hZ1 hZ2 hP hD hS))
set_option maxHeartbeats 4000000 in
set_option maxRecDepth 100000 in
theorem lc_13 (C0 : lC p s m c b L xs D cI cB kS vS) (hi : i + 6 ≤ L) (hL : L ≤ 3072) (hB : B ≤ 40000) (hI : lwI D cI cB x f q kq vq h g r s B H locs) (hl : lv_has ls 4 [(0, .ref b), (1, .ref x), (2, .ref (r 0)), (3, .int (iI ((i : Nat) : Int)))])
    (kk : ∀ (H : Heap) (locs : List Loc), lwI D cI cB x f q kq vq h g r s (B + 61) H locs → W p l e room_1 s m #[Value.ref b] below meth c H locs 42 1349 Q (F0 m 1490 ls [])) : W p l e room_1 s m #[Value.ref b] below meth c H locs 42 1349 Q (F0 m 629 ls []) := by
  obtain ⟨hx, hb, hml, hown, hts, hX0, hbl, hK, hX⟩ := C0
  have hbA : ¬ (fun q : Nat => s.heap.size ≤ q) b := Nat.not_le.mpr hbl
  obtain ⟨T, K, K2, ik, SB, SS, SN, tn, TB, F, V, jc, X, Y, j, hG, hG2, hE, hP, hD, hS⟩ := hI
  refine lv_aload_n hx hb dL_law_629 rfl (lv_at hl 1 rfl) ?_
  refine lv_aload_n hx hb dL_law_630 rfl (lv_at hl 0 rfl) ?_
  refine lv_iload_n hx hb dL_law_631 rfl (lv_at hl 3 rfl) ?_
  refine x_iconst hx hb dL_law_632 ?_
  refine x_iadd hx hb dL_law_633 ?_
  refine x_sld hx hb hX0 hbl hbA hS (i + 1) (by omega) (by omega) hL dL_law_634 ?_
  refine lv_aload_n hx hb dL_law_635 rfl (lv_at hl 0 rfl) ?_
  refine lv_iload_n hx hb dL_law_636 rfl (lv_at hl 3 rfl) ?_
  refine x_iconst hx hb dL_law_637 ?_
  refine x_iadd hx hb dL_law_638 ?_
  refine x_sld hx hb hX0 hbl hbA hS (i + 2) (by omega) (by omega) hL dL_law_639 ?_
  refine lv_aload_n hx hb dL_law_640 rfl (lv_at hl 0 rfl) ?_
  refine lv_iload_n hx hb dL_law_641 rfl (lv_at hl 3 rfl) ?_
  refine x_iconst hx hb dL_law_642 ?_
  refine x_iadd hx hb dL_law_643 ?_
  refine x_sld hx hb hX0 hbl hbA hS (i + 3) (by omega) (by omega) hL dL_law_644 ?_
  refine x_callV (As := [.int (iI (xI xs (i + 1))), .int (iI (xI xs (i + 2))), .int (iI (xI xs (i + 3)))]) (rest := []) ⟨hx, hb, hml, hown, hts⟩ (kX4_served x f q kq vq h g T K ik SB SS SN tn TB F V jc (xI xs (i + 1)) (xI xs (i + 2)) (xI xs (i + 3)) B hG hB (xI_r xs (i + 1)) (xI_r xs (i + 2)) (xI_r xs (i + 3))) (cwV 3 hts gL_law_X4_served rfl rfl rfl ykVX4_served ⟨Nat.le_of_ble_eq_true rfl, Nat.le_of_ble_eq_true rfl⟩) hP hK hD hS 0 3 rfl rfl lw_e1 [0, 1, 2, 3, 4, 5, 6, 7, 8, 9, 10, 11, 12, 13, 14, 15, 16, 17, 18, 19, 20, 21, 22, 23, 24, 25, 26, 27, 28, 29, 30, 31] lw_c1 lw_n1 (fun _ => lw_f1) (fun u => wC cI cB x f q kq vq h g u.1.2 u.2.1 u.2.2 ++ wM cI r (T, K2, ik, SB, SS, SN, tn, TB, F) X Y j) (fun _ => lw_q1) rfl hl.1 rfl (Nat.le_of_ble_eq_true rfl) dL_law_645 ⟨Nat.le_of_ble_eq_true rfl, Nat.le_of_ble_eq_true rfl⟩ (fun u H locs hu hP hD hS => ?_)
  refine W.eq (g2 := F0 m 648 ls [.int (iI u.1.1)]) rfl ?_
  refine lv_aload_n hx hb dL_law_648 rfl (lv_at hl 2 rfl) ?_
  refine lv_aload_n hx hb dL_law_649 rfl (lv_at hl 0 rfl) ?_
  refine lv_iload_n hx hb dL_law_650 rfl (lv_at hl 3 rfl) ?_
  refine x_iconst hx hb dL_law_651 ?_
  refine x_iadd hx hb dL_law_652 ?_
  refine x_sld hx hb hX0 hbl hbA hS (i + 1) (by omega) (by omega) hL dL_law_653 ?_
  refine lv_aload_n hx hb dL_law_654 rfl (lv_at hl 0 rfl) ?_
  refine lv_iload_n hx hb dL_law_655 rfl (lv_at hl 3 rfl) ?_
  refine x_iconst hx hb dL_law_656 ?_
  refine x_iadd hx hb dL_law_657 ?_
  refine x_sld hx hb hX0 hbl hbA hS (i + 2) (by omega) (by omega) hL dL_law_658 ?_
  refine lv_aload_n hx hb dL_law_659 rfl (lv_at hl 0 rfl) ?_
  refine lv_iload_n hx hb dL_law_660 rfl (lv_at hl 3 rfl) ?_
  refine x_iconst hx hb dL_law_661 ?_
  refine x_iadd hx hb dL_law_662 ?_
  refine x_sld hx hb hX0 hbl hbA hS (i + 3) (by omega) (by omega) hL dL_law_663 ?_
  refine x_callV (As := [.int (iI (xI xs (i + 1))), .int (iI (xI xs (i + 2))), .int (iI (xI xs (i + 3)))]) (rest := [.int (iI u.1.1)]) ⟨hx, hb, hml, hown, hts⟩ (kX5_served r T K2 ik SB SS SN tn TB F X Y j (xI xs (i + 1)) (xI xs (i + 2)) (xI xs (i + 3)) B hG2 hB (xI_r xs (i + 1)) (xI_r xs (i + 2)) (xI_r xs (i + 3))) (cwV 3 hts gL_law_X5_served rfl rfl rfl ykVX5_served ⟨Nat.le_of_ble_eq_true rfl, Nat.le_of_ble_eq_true rfl⟩) hP hK hD hS 32 4 rfl rfl lw_e2 [32, 33, 34, 35, 36, 37, 38, 39, 40, 41] lw_c2 lw_n2 (fun _ => lw_f2) (fun v => wC cI cB x f q kq vq h g u.1.2 u.2.1 u.2.2 ++ wM cI r v.1.2 v.2.1 v.2.2.1 v.2.2.2) (fun _ => lw_q2) rfl hl.1 rfl (Nat.le_of_ble_eq_true rfl) dL_law_664 ⟨Nat.le_of_ble_eq_true rfl, Nat.le_of_ble_eq_true rfl⟩ (fun v H locs hv hP hD hS => ?_)
  refine W.eq (g2 := F0 m 667 ls [.int (iI v.1.1), .int (iI u.1.1)]) rfl ?_
  have hE2 : eqK u.1 v.1 := by rw [show u.1 = _ from hu, show v.1 = _ from hv]; exact ek_served (xI xs (i + 1)) (xI xs (i + 2)) (xI xs (i + 3)) T K K2 ik SB SS SN tn TB F hE
  have hZ1 : GIp (B + 61) u.1 := by rw [show u.1 = _ from hu]; exact gi_served hG (xI_r xs (i + 1)) (xI_r xs (i + 2)) (xI_r xs (i + 3))
  have hZ2 : GIp (B + 61) v.1 := by rw [show v.1 = _ from hv]; exact gi_served hG2 (xI_r xs (i + 1)) (xI_r xs (i + 2)) (xI_r xs (i + 3))
  exact x_eqI (tgt := 1490) hx hb hE2.1 dL_law_667 (by decide) (kk H locs (lwI_next hE2 hZ1 hZ2 hP hD hS))
set_option maxHeartbeats 4000000 in
set_option maxRecDepth 100000 in
theorem lc_14 (C0 : lC p s m c b L xs D cI cB kS vS) (hi : i + 6 ≤ L) (hL : L ≤ 3072) (hB : B ≤ 40000) (hI : lwI D cI cB x f q kq vq h g r s B H locs) (hl : lv_has ls 4 [(0, .ref b), (1, .ref x), (2, .ref (r 0)), (3, .int (iI ((i : Nat) : Int)))])
    (kk : ∀ (H : Heap) (locs : List Loc), lwI D cI cB x f q kq vq h g r s (B + 61) H locs → W p l e room_1 s m #[Value.ref b] below meth c H locs 42 1349 Q (F0 m 1490 ls [])) : W p l e room_1 s m #[Value.ref b] below meth c H locs 42 1349 Q (F0 m 672 ls []) := by
  obtain ⟨hx, hb, hml, hown, hts, hX0, hbl, hK, hX⟩ := C0
  have hbA : ¬ (fun q : Nat => s.heap.size ≤ q) b := Nat.not_le.mpr hbl
  obtain ⟨T, K, K2, ik, SB, SS, SN, tn, TB, F, V, jc, X, Y, j, hG, hG2, hE, hP, hD, hS⟩ := hI
  refine lv_aload_n hx hb dL_law_672 rfl (lv_at hl 1 rfl) ?_
  refine lv_aload_n hx hb dL_law_673 rfl (lv_at hl 0 rfl) ?_
  refine lv_iload_n hx hb dL_law_674 rfl (lv_at hl 3 rfl) ?_
  refine x_iconst hx hb dL_law_675 ?_
  refine x_iadd hx hb dL_law_676 ?_
  refine x_sld hx hb hX0 hbl hbA hS (i + 1) (by omega) (by omega) hL dL_law_677 ?_
  refine x_callV (As := [.int (iI (xI xs (i + 1)))]) (rest := []) ⟨hx, hb, hml, hown, hts⟩ (kX4_clean x f q kq vq h g T K ik SB SS SN tn TB F V jc (xI xs (i + 1)) B hG hB (xI_r xs (i + 1))) (cwV 1 hts gL_law_X4_clean rfl rfl rfl ykVX4_clean ⟨Nat.le_of_ble_eq_true rfl, Nat.le_of_ble_eq_true rfl⟩) hP hK hD hS 0 3 rfl rfl lw_e1 [0, 1, 2, 3, 4, 5, 6, 7, 8, 9, 10, 11, 12, 13, 14, 15, 16, 17, 18, 19, 20, 21, 22, 23, 24, 25, 26, 27, 28, 29, 30, 31] lw_c1 lw_n1 (fun _ => lw_f1) (fun u => wC cI cB x f q kq vq h g u.1.2 u.2.1 u.2.2 ++ wM cI r (T, K2, ik, SB, SS, SN, tn, TB, F) X Y j) (fun _ => lw_q1) rfl hl.1 rfl (Nat.le_of_ble_eq_true rfl) dL_law_678 ⟨Nat.le_of_ble_eq_true rfl, Nat.le_of_ble_eq_true rfl⟩ (fun u H locs hu hP hD hS => ?_)
  refine W.eq (g2 := F0 m 681 ls [.int (iI u.1.1)]) rfl ?_
  refine lv_aload_n hx hb dL_law_681 rfl (lv_at hl 2 rfl) ?_
  refine lv_aload_n hx hb dL_law_682 rfl (lv_at hl 0 rfl) ?_
  refine lv_iload_n hx hb dL_law_683 rfl (lv_at hl 3 rfl) ?_
  refine x_iconst hx hb dL_law_684 ?_
  refine x_iadd hx hb dL_law_685 ?_
  refine x_sld hx hb hX0 hbl hbA hS (i + 1) (by omega) (by omega) hL dL_law_686 ?_
  refine x_callV (As := [.int (iI (xI xs (i + 1)))]) (rest := [.int (iI u.1.1)]) ⟨hx, hb, hml, hown, hts⟩ (kX5_clean r T K2 ik SB SS SN tn TB F X Y j (xI xs (i + 1)) B hG2 hB (xI_r xs (i + 1))) (cwV 1 hts gL_law_X5_clean rfl rfl rfl ykVX5_clean ⟨Nat.le_of_ble_eq_true rfl, Nat.le_of_ble_eq_true rfl⟩) hP hK hD hS 32 4 rfl rfl lw_e2 [32, 33, 34, 35, 36, 37, 38, 39, 40, 41] lw_c2 lw_n2 (fun _ => lw_f2) (fun v => wC cI cB x f q kq vq h g u.1.2 u.2.1 u.2.2 ++ wM cI r v.1.2 v.2.1 v.2.2.1 v.2.2.2) (fun _ => lw_q2) rfl hl.1 rfl (Nat.le_of_ble_eq_true rfl) dL_law_687 ⟨Nat.le_of_ble_eq_true rfl, Nat.le_of_ble_eq_true rfl⟩ (fun v H locs hv hP hD hS => ?_)
  refine W.eq (g2 := F0 m 690 ls [.int (iI v.1.1), .int (iI u.1.1)]) rfl ?_
  have hE2 : eqK u.1 v.1 := by rw [show u.1 = _ from hu, show v.1 = _ from hv]; exact ek_clean (xI xs (i + 1)) T K K2 ik SB SS SN tn TB F hE
  have hZ1 : GIp (B + 61) u.1 := by rw [show u.1 = _ from hu]; exact gi_clean hG (xI_r xs (i + 1))
  have hZ2 : GIp (B + 61) v.1 := by rw [show v.1 = _ from hv]; exact gi_clean hG2 (xI_r xs (i + 1))
  exact x_eqI (tgt := 1490) hx hb hE2.1 dL_law_690 (by decide) (kk H locs (lwI_next hE2 hZ1 hZ2 hP hD hS))
set_option maxHeartbeats 4000000 in
set_option maxRecDepth 100000 in
theorem lc_15 (C0 : lC p s m c b L xs D cI cB kS vS) (hi : i + 6 ≤ L) (hL : L ≤ 3072) (hB : B ≤ 40000) (hI : lwI D cI cB x f q kq vq h g r s B H locs) (hl : lv_has ls 4 [(0, .ref b), (1, .ref x), (2, .ref (r 0)), (3, .int (iI ((i : Nat) : Int)))])
    (kk : ∀ (H : Heap) (locs : List Loc), lwI D cI cB x f q kq vq h g r s (B + 61) H locs → W p l e room_1 s m #[Value.ref b] below meth c H locs 42 1349 Q (F0 m 1490 ls [])) : W p l e room_1 s m #[Value.ref b] below meth c H locs 42 1349 Q (F0 m 695 ls []) := by
  obtain ⟨hx, hb, hml, hown, hts, hX0, hbl, hK, hX⟩ := C0
  have hbA : ¬ (fun q : Nat => s.heap.size ≤ q) b := Nat.not_le.mpr hbl
  obtain ⟨T, K, K2, ik, SB, SS, SN, tn, TB, F, V, jc, X, Y, j, hG, hG2, hE, hP, hD, hS⟩ := hI
  refine lv_aload_n hx hb dL_law_695 rfl (lv_at hl 1 rfl) ?_
  refine lv_aload_n hx hb dL_law_696 rfl (lv_at hl 0 rfl) ?_
  refine lv_iload_n hx hb dL_law_697 rfl (lv_at hl 3 rfl) ?_
  refine x_iconst hx hb dL_law_698 ?_
  refine x_iadd hx hb dL_law_699 ?_
  refine x_sld hx hb hX0 hbl hbA hS (i + 1) (by omega) (by omega) hL dL_law_700 ?_
  refine lv_aload_n hx hb dL_law_701 rfl (lv_at hl 0 rfl) ?_
  refine lv_iload_n hx hb dL_law_702 rfl (lv_at hl 3 rfl) ?_
  refine x_iconst hx hb dL_law_703 ?_
  refine x_iadd hx hb dL_law_704 ?_
  refine x_sld hx hb hX0 hbl hbA hS (i + 2) (by omega) (by omega) hL dL_law_705 ?_
  refine x_callV (As := [.int (iI (xI xs (i + 1))), .int (iI (xI xs (i + 2)))]) (rest := []) ⟨hx, hb, hml, hown, hts⟩ (kX4_when x f q kq vq h g T K ik SB SS SN tn TB F V jc (xI xs (i + 1)) (xI xs (i + 2)) B hG hB (xI_r xs (i + 1)) (xI_r xs (i + 2))) (cwV 2 hts gL_law_X4_when rfl rfl rfl ykVX4_when ⟨Nat.le_of_ble_eq_true rfl, Nat.le_of_ble_eq_true rfl⟩) hP hK hD hS 0 3 rfl rfl lw_e1 [0, 1, 2, 3, 4, 5, 6, 7, 8, 9, 10, 11, 12, 13, 14, 15, 16, 17, 18, 19, 20, 21, 22, 23, 24, 25, 26, 27, 28, 29, 30, 31] lw_c1 lw_n1 (fun _ => lw_f1) (fun u => wC cI cB x f q kq vq h g u.1.2 u.2.1 u.2.2 ++ wM cI r (T, K2, ik, SB, SS, SN, tn, TB, F) X Y j) (fun _ => lw_q1) rfl hl.1 rfl (Nat.le_of_ble_eq_true rfl) dL_law_706 ⟨Nat.le_of_ble_eq_true rfl, Nat.le_of_ble_eq_true rfl⟩ (fun u H locs hu hP hD hS => ?_)
  refine W.eq (g2 := F0 m 709 ls [.int (iI u.1.1)]) rfl ?_
  refine lv_aload_n hx hb dL_law_709 rfl (lv_at hl 2 rfl) ?_
  refine lv_aload_n hx hb dL_law_710 rfl (lv_at hl 0 rfl) ?_
  refine lv_iload_n hx hb dL_law_711 rfl (lv_at hl 3 rfl) ?_
  refine x_iconst hx hb dL_law_712 ?_
  refine x_iadd hx hb dL_law_713 ?_
  refine x_sld hx hb hX0 hbl hbA hS (i + 1) (by omega) (by omega) hL dL_law_714 ?_
  refine lv_aload_n hx hb dL_law_715 rfl (lv_at hl 0 rfl) ?_
  refine lv_iload_n hx hb dL_law_716 rfl (lv_at hl 3 rfl) ?_
  refine x_iconst hx hb dL_law_717 ?_
  refine x_iadd hx hb dL_law_718 ?_
  refine x_sld hx hb hX0 hbl hbA hS (i + 2) (by omega) (by omega) hL dL_law_719 ?_
  refine x_callV (As := [.int (iI (xI xs (i + 1))), .int (iI (xI xs (i + 2)))]) (rest := [.int (iI u.1.1)]) ⟨hx, hb, hml, hown, hts⟩ (kX5_when r T K2 ik SB SS SN tn TB F X Y j (xI xs (i + 1)) (xI xs (i + 2)) B hG2 hB (xI_r xs (i + 1)) (xI_r xs (i + 2))) (cwV 2 hts gL_law_X5_when rfl rfl rfl ykVX5_when ⟨Nat.le_of_ble_eq_true rfl, Nat.le_of_ble_eq_true rfl⟩) hP hK hD hS 32 4 rfl rfl lw_e2 [32, 33, 34, 35, 36, 37, 38, 39, 40, 41] lw_c2 lw_n2 (fun _ => lw_f2) (fun v => wC cI cB x f q kq vq h g u.1.2 u.2.1 u.2.2 ++ wM cI r v.1.2 v.2.1 v.2.2.1 v.2.2.2) (fun _ => lw_q2) rfl hl.1 rfl (Nat.le_of_ble_eq_true rfl) dL_law_720 ⟨Nat.le_of_ble_eq_true rfl, Nat.le_of_ble_eq_true rfl⟩ (fun v H locs hv hP hD hS => ?_)
  refine W.eq (g2 := F0 m 723 ls [.int (iI v.1.1), .int (iI u.1.1)]) rfl ?_
  have hE2 : eqK u.1 v.1 := by rw [show u.1 = _ from hu, show v.1 = _ from hv]; exact ek_when (xI xs (i + 1)) (xI xs (i + 2)) T K K2 ik SB SS SN tn TB F hE
  have hZ1 : GIp (B + 61) u.1 := by rw [show u.1 = _ from hu]; exact gi_when hG (xI_r xs (i + 1)) (xI_r xs (i + 2))
  have hZ2 : GIp (B + 61) v.1 := by rw [show v.1 = _ from hv]; exact gi_when hG2 (xI_r xs (i + 1)) (xI_r xs (i + 2))
  exact x_eqI (tgt := 1490) hx hb hE2.1 dL_law_723 (by decide) (kk H locs (lwI_next hE2 hZ1 hZ2 hP hD hS))
set_option maxHeartbeats 4000000 in
set_option maxRecDepth 100000 in
theorem lc_16 (C0 : lC p s m c b L xs D cI cB kS vS) (hi : i + 6 ≤ L) (hL : L ≤ 3072) (hB : B ≤ 40000) (hI : lwI D cI cB x f q kq vq h g r s B H locs) (hl : lv_has ls 4 [(0, .ref b), (1, .ref x), (2, .ref (r 0)), (3, .int (iI ((i : Nat) : Int)))])
    (kk : ∀ (H : Heap) (locs : List Loc), lwI D cI cB x f q kq vq h g r s (B + 61) H locs → W p l e room_1 s m #[Value.ref b] below meth c H locs 42 1349 Q (F0 m 1490 ls [])) : W p l e room_1 s m #[Value.ref b] below meth c H locs 42 1349 Q (F0 m 728 ls []) := by
  obtain ⟨hx, hb, hml, hown, hts, hX0, hbl, hK, hX⟩ := C0
  have hbA : ¬ (fun q : Nat => s.heap.size ≤ q) b := Nat.not_le.mpr hbl
  obtain ⟨T, K, K2, ik, SB, SS, SN, tn, TB, F, V, jc, X, Y, j, hG, hG2, hE, hP, hD, hS⟩ := hI
  refine lv_aload_n hx hb dL_law_728 rfl (lv_at hl 1 rfl) ?_
  refine lv_aload_n hx hb dL_law_729 rfl (lv_at hl 0 rfl) ?_
  refine lv_iload_n hx hb dL_law_730 rfl (lv_at hl 3 rfl) ?_
  refine x_iconst hx hb dL_law_731 ?_
  refine x_iadd hx hb dL_law_732 ?_
  refine x_sld hx hb hX0 hbl hbA hS (i + 1) (by omega) (by omega) hL dL_law_733 ?_
  refine x_callV (As := [.int (iI (xI xs (i + 1)))]) (rest := []) ⟨hx, hb, hml, hown, hts⟩ (kX4_thin x f q kq vq h g T K ik SB SS SN tn TB F V jc (xI xs (i + 1)) B hG hB (xI_r xs (i + 1))) (cwV 1 hts gL_law_X4_thin rfl rfl rfl ykVX4_thin ⟨Nat.le_of_ble_eq_true rfl, Nat.le_of_ble_eq_true rfl⟩) hP hK hD hS 0 3 rfl rfl lw_e1 [0, 1, 2, 3, 4, 5, 6, 7, 8, 9, 10, 11, 12, 13, 14, 15, 16, 17, 18, 19, 20, 21, 22, 23, 24, 25, 26, 27, 28, 29, 30, 31] lw_c1 lw_n1 (fun _ => lw_f1) (fun u => wC cI cB x f q kq vq h g u.1.2 u.2.1 u.2.2 ++ wM cI r (T, K2, ik, SB, SS, SN, tn, TB, F) X Y j) (fun _ => lw_q1) rfl hl.1 rfl (Nat.le_of_ble_eq_true rfl) dL_law_734 ⟨Nat.le_of_ble_eq_true rfl, Nat.le_of_ble_eq_true rfl⟩ (fun u H locs hu hP hD hS => ?_)
  refine W.eq (g2 := F0 m 737 ls [.int (iI u.1.1)]) rfl ?_
  refine lv_aload_n hx hb dL_law_737 rfl (lv_at hl 2 rfl) ?_
  refine lv_aload_n hx hb dL_law_738 rfl (lv_at hl 0 rfl) ?_
  refine lv_iload_n hx hb dL_law_739 rfl (lv_at hl 3 rfl) ?_
  refine x_iconst hx hb dL_law_740 ?_
  refine x_iadd hx hb dL_law_741 ?_
  refine x_sld hx hb hX0 hbl hbA hS (i + 1) (by omega) (by omega) hL dL_law_742 ?_
  refine x_callV (As := [.int (iI (xI xs (i + 1)))]) (rest := [.int (iI u.1.1)]) ⟨hx, hb, hml, hown, hts⟩ (kX5_thin r T K2 ik SB SS SN tn TB F X Y j (xI xs (i + 1)) B hG2 hB (xI_r xs (i + 1))) (cwV 1 hts gL_law_X5_thin rfl rfl rfl ykVX5_thin ⟨Nat.le_of_ble_eq_true rfl, Nat.le_of_ble_eq_true rfl⟩) hP hK hD hS 32 4 rfl rfl lw_e2 [32, 33, 34, 35, 36, 37, 38, 39, 40, 41] lw_c2 lw_n2 (fun _ => lw_f2) (fun v => wC cI cB x f q kq vq h g u.1.2 u.2.1 u.2.2 ++ wM cI r v.1.2 v.2.1 v.2.2.1 v.2.2.2) (fun _ => lw_q2) rfl hl.1 rfl (Nat.le_of_ble_eq_true rfl) dL_law_743 ⟨Nat.le_of_ble_eq_true rfl, Nat.le_of_ble_eq_true rfl⟩ (fun v H locs hv hP hD hS => ?_)
  refine W.eq (g2 := F0 m 746 ls [.int (iI v.1.1), .int (iI u.1.1)]) rfl ?_
  have hE2 : eqK u.1 v.1 := by rw [show u.1 = _ from hu, show v.1 = _ from hv]; exact ek_thin (xI xs (i + 1)) T K K2 ik SB SS SN tn TB F hE
  have hZ1 : GIp (B + 61) u.1 := by rw [show u.1 = _ from hu]; exact gi_thin hG (xI_r xs (i + 1))
  have hZ2 : GIp (B + 61) v.1 := by rw [show v.1 = _ from hv]; exact gi_thin hG2 (xI_r xs (i + 1))
  exact x_eqI (tgt := 1490) hx hb hE2.1 dL_law_746 (by decide) (kk H locs (lwI_next hE2 hZ1 hZ2 hP hD hS))
set_option maxHeartbeats 4000000 in
set_option maxRecDepth 100000 in
theorem lc_17 (C0 : lC p s m c b L xs D cI cB kS vS) (hi : i + 6 ≤ L) (hL : L ≤ 3072) (hB : B ≤ 40000) (hI : lwI D cI cB x f q kq vq h g r s B H locs) (hl : lv_has ls 4 [(0, .ref b), (1, .ref x), (2, .ref (r 0)), (3, .int (iI ((i : Nat) : Int)))])
    (kk : ∀ (H : Heap) (locs : List Loc), lwI D cI cB x f q kq vq h g r s (B + 61) H locs → W p l e room_1 s m #[Value.ref b] below meth c H locs 42 1349 Q (F0 m 1490 ls [])) : W p l e room_1 s m #[Value.ref b] below meth c H locs 42 1349 Q (F0 m 751 ls []) := by
  obtain ⟨hx, hb, hml, hown, hts, hX0, hbl, hK, hX⟩ := C0
  have hbA : ¬ (fun q : Nat => s.heap.size ≤ q) b := Nat.not_le.mpr hbl
  obtain ⟨T, K, K2, ik, SB, SS, SN, tn, TB, F, V, jc, X, Y, j, hG, hG2, hE, hP, hD, hS⟩ := hI
  refine lv_aload_n hx hb dL_law_751 rfl (lv_at hl 1 rfl) ?_
  refine lv_aload_n hx hb dL_law_752 rfl (lv_at hl 0 rfl) ?_
  refine lv_iload_n hx hb dL_law_753 rfl (lv_at hl 3 rfl) ?_
  refine x_iconst hx hb dL_law_754 ?_
  refine x_iadd hx hb dL_law_755 ?_
  refine x_sld hx hb hX0 hbl hbA hS (i + 1) (by omega) (by omega) hL dL_law_756 ?_
  refine lv_aload_n hx hb dL_law_757 rfl (lv_at hl 0 rfl) ?_
  refine lv_iload_n hx hb dL_law_758 rfl (lv_at hl 3 rfl) ?_
  refine x_iconst hx hb dL_law_759 ?_
  refine x_iadd hx hb dL_law_760 ?_
  refine x_sld hx hb hX0 hbl hbA hS (i + 2) (by omega) (by omega) hL dL_law_761 ?_
  refine x_callV (As := [.int (iI (xI xs (i + 1))), .int (iI (xI xs (i + 2)))]) (rest := []) ⟨hx, hb, hml, hown, hts⟩ (kX4_love x f q kq vq h g T K ik SB SS SN tn TB F V jc (xI xs (i + 1)) (xI xs (i + 2)) B hG hB (xI_r xs (i + 1)) (xI_r xs (i + 2))) (cwV 2 hts gL_law_X4_love rfl rfl rfl ykVX4_love ⟨Nat.le_of_ble_eq_true rfl, Nat.le_of_ble_eq_true rfl⟩) hP hK hD hS 0 3 rfl rfl lw_e1 [0, 1, 2, 3, 4, 5, 6, 7, 8, 9, 10, 11, 12, 13, 14, 15, 16, 17, 18, 19, 20, 21, 22, 23, 24, 25, 26, 27, 28, 29, 30, 31] lw_c1 lw_n1 (fun _ => lw_f1) (fun u => wC cI cB x f q kq vq h g u.1.2 u.2.1 u.2.2 ++ wM cI r (T, K2, ik, SB, SS, SN, tn, TB, F) X Y j) (fun _ => lw_q1) rfl hl.1 rfl (Nat.le_of_ble_eq_true rfl) dL_law_762 ⟨Nat.le_of_ble_eq_true rfl, Nat.le_of_ble_eq_true rfl⟩ (fun u H locs hu hP hD hS => ?_)
  refine W.eq (g2 := F0 m 765 ls [.int (iI u.1.1)]) rfl ?_
  refine lv_aload_n hx hb dL_law_765 rfl (lv_at hl 2 rfl) ?_
  refine lv_aload_n hx hb dL_law_766 rfl (lv_at hl 0 rfl) ?_
  refine lv_iload_n hx hb dL_law_767 rfl (lv_at hl 3 rfl) ?_
  refine x_iconst hx hb dL_law_768 ?_
  refine x_iadd hx hb dL_law_769 ?_
  refine x_sld hx hb hX0 hbl hbA hS (i + 1) (by omega) (by omega) hL dL_law_770 ?_
  refine lv_aload_n hx hb dL_law_771 rfl (lv_at hl 0 rfl) ?_
  refine lv_iload_n hx hb dL_law_772 rfl (lv_at hl 3 rfl) ?_
  refine x_iconst hx hb dL_law_773 ?_
  refine x_iadd hx hb dL_law_774 ?_
  refine x_sld hx hb hX0 hbl hbA hS (i + 2) (by omega) (by omega) hL dL_law_775 ?_
  refine x_callV (As := [.int (iI (xI xs (i + 1))), .int (iI (xI xs (i + 2)))]) (rest := [.int (iI u.1.1)]) ⟨hx, hb, hml, hown, hts⟩ (kX5_love r T K2 ik SB SS SN tn TB F X Y j (xI xs (i + 1)) (xI xs (i + 2)) B hG2 hB (xI_r xs (i + 1)) (xI_r xs (i + 2))) (cwV 2 hts gL_law_X5_love rfl rfl rfl ykVX5_love ⟨Nat.le_of_ble_eq_true rfl, Nat.le_of_ble_eq_true rfl⟩) hP hK hD hS 32 4 rfl rfl lw_e2 [32, 33, 34, 35, 36, 37, 38, 39, 40, 41] lw_c2 lw_n2 (fun _ => lw_f2) (fun v => wC cI cB x f q kq vq h g u.1.2 u.2.1 u.2.2 ++ wM cI r v.1.2 v.2.1 v.2.2.1 v.2.2.2) (fun _ => lw_q2) rfl hl.1 rfl (Nat.le_of_ble_eq_true rfl) dL_law_776 ⟨Nat.le_of_ble_eq_true rfl, Nat.le_of_ble_eq_true rfl⟩ (fun v H locs hv hP hD hS => ?_)
  refine W.eq (g2 := F0 m 779 ls [.int (iI v.1.1), .int (iI u.1.1)]) rfl ?_
  have hE2 : eqK u.1 v.1 := by rw [show u.1 = _ from hu, show v.1 = _ from hv]; exact ek_love (xI xs (i + 1)) (xI xs (i + 2)) T K K2 ik SB SS SN tn TB F hE
  have hZ1 : GIp (B + 61) u.1 := by rw [show u.1 = _ from hu]; exact gi_love hG (xI_r xs (i + 1)) (xI_r xs (i + 2))
  have hZ2 : GIp (B + 61) v.1 := by rw [show v.1 = _ from hv]; exact gi_love hG2 (xI_r xs (i + 1)) (xI_r xs (i + 2))
  exact x_eqI (tgt := 1490) hx hb hE2.1 dL_law_779 (by decide) (kk H locs (lwI_next hE2 hZ1 hZ2 hP hD hS))
set_option maxHeartbeats 4000000 in
set_option maxRecDepth 100000 in
theorem lc_18 (C0 : lC p s m c b L xs D cI cB kS vS) (hi : i + 6 ≤ L) (hL : L ≤ 3072) (hB : B ≤ 40000) (hI : lwI D cI cB x f q kq vq h g r s B H locs) (hl : lv_has ls 4 [(0, .ref b), (1, .ref x), (2, .ref (r 0)), (3, .int (iI ((i : Nat) : Int)))])
    (kk : ∀ (H : Heap) (locs : List Loc), lwI D cI cB x f q kq vq h g r s (B + 61) H locs → W p l e room_1 s m #[Value.ref b] below meth c H locs 42 1349 Q (F0 m 1490 ls [])) : W p l e room_1 s m #[Value.ref b] below meth c H locs 42 1349 Q (F0 m 784 ls []) := by
  obtain ⟨hx, hb, hml, hown, hts, hX0, hbl, hK, hX⟩ := C0
  have hbA : ¬ (fun q : Nat => s.heap.size ≤ q) b := Nat.not_le.mpr hbl
  obtain ⟨T, K, K2, ik, SB, SS, SN, tn, TB, F, V, jc, X, Y, j, hG, hG2, hE, hP, hD, hS⟩ := hI
  refine lv_aload_n hx hb dL_law_784 rfl (lv_at hl 1 rfl) ?_
  refine lv_aload_n hx hb dL_law_785 rfl (lv_at hl 0 rfl) ?_
  refine lv_iload_n hx hb dL_law_786 rfl (lv_at hl 3 rfl) ?_
  refine x_iconst hx hb dL_law_787 ?_
  refine x_iadd hx hb dL_law_788 ?_
  refine x_sld hx hb hX0 hbl hbA hS (i + 1) (by omega) (by omega) hL dL_law_789 ?_
  refine lv_aload_n hx hb dL_law_790 rfl (lv_at hl 0 rfl) ?_
  refine lv_iload_n hx hb dL_law_791 rfl (lv_at hl 3 rfl) ?_
  refine x_iconst hx hb dL_law_792 ?_
  refine x_iadd hx hb dL_law_793 ?_
  refine x_sld hx hb hX0 hbl hbA hS (i + 2) (by omega) (by omega) hL dL_law_794 ?_
  refine x_callV (As := [.int (iI (xI xs (i + 1))), .int (iI (xI xs (i + 2)))]) (rest := []) ⟨hx, hb, hml, hown, hts⟩ (kX4_kindFor x f q kq vq h g T K ik SB SS SN tn TB F V jc (xI xs (i + 1)) (xI xs (i + 2)) B hG hB (xI_r xs (i + 1)) (xI_r xs (i + 2))) (cwV 2 hts gL_law_X4_kindFor rfl rfl rfl ykVX4_kindFor ⟨Nat.le_of_ble_eq_true rfl, Nat.le_of_ble_eq_true rfl⟩) hP hK hD hS 0 3 rfl rfl lw_e1 [0, 1, 2, 3, 4, 5, 6, 7, 8, 9, 10, 11, 12, 13, 14, 15, 16, 17, 18, 19, 20, 21, 22, 23, 24, 25, 26, 27, 28, 29, 30, 31] lw_c1 lw_n1 (fun _ => lw_f1) (fun u => wC cI cB x f q kq vq h g u.1.2 u.2.1 u.2.2 ++ wM cI r (T, K2, ik, SB, SS, SN, tn, TB, F) X Y j) (fun _ => lw_q1) rfl hl.1 rfl (Nat.le_of_ble_eq_true rfl) dL_law_795 ⟨Nat.le_of_ble_eq_true rfl, Nat.le_of_ble_eq_true rfl⟩ (fun u H locs hu hP hD hS => ?_)
  refine W.eq (g2 := F0 m 798 ls [.int (iI u.1.1)]) rfl ?_
  refine lv_aload_n hx hb dL_law_798 rfl (lv_at hl 2 rfl) ?_
  refine lv_aload_n hx hb dL_law_799 rfl (lv_at hl 0 rfl) ?_
  refine lv_iload_n hx hb dL_law_800 rfl (lv_at hl 3 rfl) ?_
  refine x_iconst hx hb dL_law_801 ?_
  refine x_iadd hx hb dL_law_802 ?_
  refine x_sld hx hb hX0 hbl hbA hS (i + 1) (by omega) (by omega) hL dL_law_803 ?_
  refine lv_aload_n hx hb dL_law_804 rfl (lv_at hl 0 rfl) ?_
  refine lv_iload_n hx hb dL_law_805 rfl (lv_at hl 3 rfl) ?_
  refine x_iconst hx hb dL_law_806 ?_
  refine x_iadd hx hb dL_law_807 ?_
  refine x_sld hx hb hX0 hbl hbA hS (i + 2) (by omega) (by omega) hL dL_law_808 ?_
  refine x_callV (As := [.int (iI (xI xs (i + 1))), .int (iI (xI xs (i + 2)))]) (rest := [.int (iI u.1.1)]) ⟨hx, hb, hml, hown, hts⟩ (kX5_kindFor r T K2 ik SB SS SN tn TB F X Y j (xI xs (i + 1)) (xI xs (i + 2)) B hG2 hB (xI_r xs (i + 1)) (xI_r xs (i + 2))) (cwV 2 hts gL_law_X5_kindFor rfl rfl rfl ykVX5_kindFor ⟨Nat.le_of_ble_eq_true rfl, Nat.le_of_ble_eq_true rfl⟩) hP hK hD hS 32 4 rfl rfl lw_e2 [32, 33, 34, 35, 36, 37, 38, 39, 40, 41] lw_c2 lw_n2 (fun _ => lw_f2) (fun v => wC cI cB x f q kq vq h g u.1.2 u.2.1 u.2.2 ++ wM cI r v.1.2 v.2.1 v.2.2.1 v.2.2.2) (fun _ => lw_q2) rfl hl.1 rfl (Nat.le_of_ble_eq_true rfl) dL_law_809 ⟨Nat.le_of_ble_eq_true rfl, Nat.le_of_ble_eq_true rfl⟩ (fun v H locs hv hP hD hS => ?_)
  refine W.eq (g2 := F0 m 812 ls [.int (iI v.1.1), .int (iI u.1.1)]) rfl ?_
  have hE2 : eqK u.1 v.1 := by rw [show u.1 = _ from hu, show v.1 = _ from hv]; exact ek_kindFor (xI xs (i + 1)) (xI xs (i + 2)) T K K2 ik SB SS SN tn TB F hE
  have hZ1 : GIp (B + 61) u.1 := by rw [show u.1 = _ from hu]; exact gi_kindFor hG (xI_r xs (i + 1)) (xI_r xs (i + 2))
  have hZ2 : GIp (B + 61) v.1 := by rw [show v.1 = _ from hv]; exact gi_kindFor hG2 (xI_r xs (i + 1)) (xI_r xs (i + 2))
  exact x_eqI (tgt := 1490) hx hb hE2.1 dL_law_812 (by decide) (kk H locs (lwI_next hE2 hZ1 hZ2 hP hD hS))
set_option maxHeartbeats 4000000 in
set_option maxRecDepth 100000 in
theorem lc_19 (C0 : lC p s m c b L xs D cI cB kS vS) (hi : i + 6 ≤ L) (hL : L ≤ 3072) (hB : B ≤ 40000) (hI : lwI D cI cB x f q kq vq h g r s B H locs) (hl : lv_has ls 4 [(0, .ref b), (1, .ref x), (2, .ref (r 0)), (3, .int (iI ((i : Nat) : Int)))])
    (kk : ∀ (H : Heap) (locs : List Loc), lwI D cI cB x f q kq vq h g r s (B + 61) H locs → W p l e room_1 s m #[Value.ref b] below meth c H locs 42 1349 Q (F0 m 1490 ls [])) : W p l e room_1 s m #[Value.ref b] below meth c H locs 42 1349 Q (F0 m 817 ls []) := by
  obtain ⟨hx, hb, hml, hown, hts, hX0, hbl, hK, hX⟩ := C0
  have hbA : ¬ (fun q : Nat => s.heap.size ≤ q) b := Nat.not_le.mpr hbl
  obtain ⟨T, K, K2, ik, SB, SS, SN, tn, TB, F, V, jc, X, Y, j, hG, hG2, hE, hP, hD, hS⟩ := hI
  refine lv_aload_n hx hb dL_law_817 rfl (lv_at hl 1 rfl) ?_
  refine lv_aload_n hx hb dL_law_818 rfl (lv_at hl 0 rfl) ?_
  refine lv_iload_n hx hb dL_law_819 rfl (lv_at hl 3 rfl) ?_
  refine x_iconst hx hb dL_law_820 ?_
  refine x_iadd hx hb dL_law_821 ?_
  refine x_sld hx hb hX0 hbl hbA hS (i + 1) (by omega) (by omega) hL dL_law_822 ?_
  refine lv_aload_n hx hb dL_law_823 rfl (lv_at hl 0 rfl) ?_
  refine lv_iload_n hx hb dL_law_824 rfl (lv_at hl 3 rfl) ?_
  refine x_iconst hx hb dL_law_825 ?_
  refine x_iadd hx hb dL_law_826 ?_
  refine x_sld hx hb hX0 hbl hbA hS (i + 2) (by omega) (by omega) hL dL_law_827 ?_
  refine x_callV (As := [.int (iI (xI xs (i + 1))), .int (iI (xI xs (i + 2)))]) (rest := []) ⟨hx, hb, hml, hown, hts⟩ (kX4_vinegarFor x f q kq vq h g T K ik SB SS SN tn TB F V jc (xI xs (i + 1)) (xI xs (i + 2)) B hG hB (xI_r xs (i + 1)) (xI_r xs (i + 2))) (cwV 2 hts gL_law_X4_vinegarFor rfl rfl rfl ykVX4_vinegarFor ⟨Nat.le_of_ble_eq_true rfl, Nat.le_of_ble_eq_true rfl⟩) hP hK hD hS 0 3 rfl rfl lw_e1 [0, 1, 2, 3, 4, 5, 6, 7, 8, 9, 10, 11, 12, 13, 14, 15, 16, 17, 18, 19, 20, 21, 22, 23, 24, 25, 26, 27, 28, 29, 30, 31] lw_c1 lw_n1 (fun _ => lw_f1) (fun u => wC cI cB x f q kq vq h g u.1.2 u.2.1 u.2.2 ++ wM cI r (T, K2, ik, SB, SS, SN, tn, TB, F) X Y j) (fun _ => lw_q1) rfl hl.1 rfl (Nat.le_of_ble_eq_true rfl) dL_law_828 ⟨Nat.le_of_ble_eq_true rfl, Nat.le_of_ble_eq_true rfl⟩ (fun u H locs hu hP hD hS => ?_)
  refine W.eq (g2 := F0 m 831 ls [.int (iI u.1.1)]) rfl ?_
  refine lv_aload_n hx hb dL_law_831 rfl (lv_at hl 2 rfl) ?_
  refine lv_aload_n hx hb dL_law_832 rfl (lv_at hl 0 rfl) ?_
  refine lv_iload_n hx hb dL_law_833 rfl (lv_at hl 3 rfl) ?_
  refine x_iconst hx hb dL_law_834 ?_
  refine x_iadd hx hb dL_law_835 ?_
  refine x_sld hx hb hX0 hbl hbA hS (i + 1) (by omega) (by omega) hL dL_law_836 ?_
  refine lv_aload_n hx hb dL_law_837 rfl (lv_at hl 0 rfl) ?_
  refine lv_iload_n hx hb dL_law_838 rfl (lv_at hl 3 rfl) ?_
  refine x_iconst hx hb dL_law_839 ?_
  refine x_iadd hx hb dL_law_840 ?_
  refine x_sld hx hb hX0 hbl hbA hS (i + 2) (by omega) (by omega) hL dL_law_841 ?_
  refine x_callV (As := [.int (iI (xI xs (i + 1))), .int (iI (xI xs (i + 2)))]) (rest := [.int (iI u.1.1)]) ⟨hx, hb, hml, hown, hts⟩ (kX5_vinegarFor r T K2 ik SB SS SN tn TB F X Y j (xI xs (i + 1)) (xI xs (i + 2)) B hG2 hB (xI_r xs (i + 1)) (xI_r xs (i + 2))) (cwV 2 hts gL_law_X5_vinegarFor rfl rfl rfl ykVX5_vinegarFor ⟨Nat.le_of_ble_eq_true rfl, Nat.le_of_ble_eq_true rfl⟩) hP hK hD hS 32 4 rfl rfl lw_e2 [32, 33, 34, 35, 36, 37, 38, 39, 40, 41] lw_c2 lw_n2 (fun _ => lw_f2) (fun v => wC cI cB x f q kq vq h g u.1.2 u.2.1 u.2.2 ++ wM cI r v.1.2 v.2.1 v.2.2.1 v.2.2.2) (fun _ => lw_q2) rfl hl.1 rfl (Nat.le_of_ble_eq_true rfl) dL_law_842 ⟨Nat.le_of_ble_eq_true rfl, Nat.le_of_ble_eq_true rfl⟩ (fun v H locs hv hP hD hS => ?_)
  refine W.eq (g2 := F0 m 845 ls [.int (iI v.1.1), .int (iI u.1.1)]) rfl ?_
  have hE2 : eqK u.1 v.1 := by rw [show u.1 = _ from hu, show v.1 = _ from hv]; exact ek_vinegarFor (xI xs (i + 1)) (xI xs (i + 2)) T K K2 ik SB SS SN tn TB F hE
  have hZ1 : GIp (B + 61) u.1 := by rw [show u.1 = _ from hu]; exact gi_vinegarFor hG (xI_r xs (i + 1)) (xI_r xs (i + 2))
  have hZ2 : GIp (B + 61) v.1 := by rw [show v.1 = _ from hv]; exact gi_vinegarFor hG2 (xI_r xs (i + 1)) (xI_r xs (i + 2))
  exact x_eqI (tgt := 1490) hx hb hE2.1 dL_law_845 (by decide) (kk H locs (lwI_next hE2 hZ1 hZ2 hP hD hS))
set_option maxHeartbeats 4000000 in
set_option maxRecDepth 100000 in
theorem lc_20 (C0 : lC p s m c b L xs D cI cB kS vS) (hi : i + 6 ≤ L) (hL : L ≤ 3072) (hB : B ≤ 40000) (hI : lwI D cI cB x f q kq vq h g r s B H locs) (hl : lv_has ls 4 [(0, .ref b), (1, .ref x), (2, .ref (r 0)), (3, .int (iI ((i : Nat) : Int)))])
    (kk : ∀ (H : Heap) (locs : List Loc), lwI D cI cB x f q kq vq h g r s (B + 61) H locs → W p l e room_1 s m #[Value.ref b] below meth c H locs 42 1349 Q (F0 m 1490 ls [])) : W p l e room_1 s m #[Value.ref b] below meth c H locs 42 1349 Q (F0 m 850 ls []) := by
  obtain ⟨hx, hb, hml, hown, hts, hX0, hbl, hK, hX⟩ := C0
  have hbA : ¬ (fun q : Nat => s.heap.size ≤ q) b := Nat.not_le.mpr hbl
  obtain ⟨T, K, K2, ik, SB, SS, SN, tn, TB, F, V, jc, X, Y, j, hG, hG2, hE, hP, hD, hS⟩ := hI
  refine lv_aload_n hx hb dL_law_850 rfl (lv_at hl 1 rfl) ?_
  refine lv_aload_n hx hb dL_law_851 rfl (lv_at hl 0 rfl) ?_
  refine lv_iload_n hx hb dL_law_852 rfl (lv_at hl 3 rfl) ?_
  refine x_iconst hx hb dL_law_853 ?_
  refine x_iadd hx hb dL_law_854 ?_
  refine x_sld hx hb hX0 hbl hbA hS (i + 1) (by omega) (by omega) hL dL_law_855 ?_
  refine x_callV (As := [.int (iI (xI xs (i + 1)))]) (rest := []) ⟨hx, hb, hml, hown, hts⟩ (kX4_unsay x f q kq vq h g T K ik SB SS SN tn TB F V jc (xI xs (i + 1)) B hG hB (xI_r xs (i + 1))) (cwV 1 hts gL_law_X4_unsay rfl rfl rfl ykVX4_unsay ⟨Nat.le_of_ble_eq_true rfl, Nat.le_of_ble_eq_true rfl⟩) hP hK hD hS 0 3 rfl rfl lw_e1 [0, 1, 2, 3, 4, 5, 6, 7, 8, 9, 10, 11, 12, 13, 14, 15, 16, 17, 18, 19, 20, 21, 22, 23, 24, 25, 26, 27, 28, 29, 30, 31] lw_c1 lw_n1 (fun _ => lw_f1) (fun u => wC cI cB x f q kq vq h g u.1.2 u.2.1 u.2.2 ++ wM cI r (T, K2, ik, SB, SS, SN, tn, TB, F) X Y j) (fun _ => lw_q1) rfl hl.1 rfl (Nat.le_of_ble_eq_true rfl) dL_law_856 ⟨Nat.le_of_ble_eq_true rfl, Nat.le_of_ble_eq_true rfl⟩ (fun u H locs hu hP hD hS => ?_)
  refine W.eq (g2 := F0 m 859 ls [.int (iI u.1.1)]) rfl ?_
  refine lv_aload_n hx hb dL_law_859 rfl (lv_at hl 2 rfl) ?_
  refine lv_aload_n hx hb dL_law_860 rfl (lv_at hl 0 rfl) ?_
  refine lv_iload_n hx hb dL_law_861 rfl (lv_at hl 3 rfl) ?_
  refine x_iconst hx hb dL_law_862 ?_
  refine x_iadd hx hb dL_law_863 ?_
  refine x_sld hx hb hX0 hbl hbA hS (i + 1) (by omega) (by omega) hL dL_law_864 ?_
  refine x_callV (As := [.int (iI (xI xs (i + 1)))]) (rest := [.int (iI u.1.1)]) ⟨hx, hb, hml, hown, hts⟩ (kX5_unsay r T K2 ik SB SS SN tn TB F X Y j (xI xs (i + 1)) B hG2 hB (xI_r xs (i + 1))) (cwV 1 hts gL_law_X5_unsay rfl rfl rfl ykVX5_unsay ⟨Nat.le_of_ble_eq_true rfl, Nat.le_of_ble_eq_true rfl⟩) hP hK hD hS 32 4 rfl rfl lw_e2 [32, 33, 34, 35, 36, 37, 38, 39, 40, 41] lw_c2 lw_n2 (fun _ => lw_f2) (fun v => wC cI cB x f q kq vq h g u.1.2 u.2.1 u.2.2 ++ wM cI r v.1.2 v.2.1 v.2.2.1 v.2.2.2) (fun _ => lw_q2) rfl hl.1 rfl (Nat.le_of_ble_eq_true rfl) dL_law_865 ⟨Nat.le_of_ble_eq_true rfl, Nat.le_of_ble_eq_true rfl⟩ (fun v H locs hv hP hD hS => ?_)
  refine W.eq (g2 := F0 m 868 ls [.int (iI v.1.1), .int (iI u.1.1)]) rfl ?_
  have hE2 : eqK u.1 v.1 := by rw [show u.1 = _ from hu, show v.1 = _ from hv]; exact ek_unsay (xI xs (i + 1)) T K K2 ik SB SS SN tn TB F hE
  have hZ1 : GIp (B + 61) u.1 := by rw [show u.1 = _ from hu]; exact gi_unsay hG (xI_r xs (i + 1))
  have hZ2 : GIp (B + 61) v.1 := by rw [show v.1 = _ from hv]; exact gi_unsay hG2 (xI_r xs (i + 1))
  exact x_eqI (tgt := 1490) hx hb hE2.1 dL_law_868 (by decide) (kk H locs (lwI_next hE2 hZ1 hZ2 hP hD hS))
set_option maxHeartbeats 4000000 in
set_option maxRecDepth 100000 in
theorem lc_21 (C0 : lC p s m c b L xs D cI cB kS vS) (hi : i + 6 ≤ L) (hL : L ≤ 3072) (hB : B ≤ 40000) (hI : lwI D cI cB x f q kq vq h g r s B H locs) (hl : lv_has ls 4 [(0, .ref b), (1, .ref x), (2, .ref (r 0)), (3, .int (iI ((i : Nat) : Int)))])
    (kk : ∀ (H : Heap) (locs : List Loc), lwI D cI cB x f q kq vq h g r s (B + 61) H locs → W p l e room_1 s m #[Value.ref b] below meth c H locs 42 1349 Q (F0 m 1490 ls [])) : W p l e room_1 s m #[Value.ref b] below meth c H locs 42 1349 Q (F0 m 873 ls []) := by
  obtain ⟨hx, hb, hml, hown, hts, hX0, hbl, hK, hX⟩ := C0
  have hbA : ¬ (fun q : Nat => s.heap.size ≤ q) b := Nat.not_le.mpr hbl
  obtain ⟨T, K, K2, ik, SB, SS, SN, tn, TB, F, V, jc, X, Y, j, hG, hG2, hE, hP, hD, hS⟩ := hI
  refine lv_aload_n hx hb dL_law_873 rfl (lv_at hl 1 rfl) ?_
  refine lv_aload_n hx hb dL_law_874 rfl (lv_at hl 0 rfl) ?_
  refine lv_iload_n hx hb dL_law_875 rfl (lv_at hl 3 rfl) ?_
  refine x_iconst hx hb dL_law_876 ?_
  refine x_iadd hx hb dL_law_877 ?_
  refine x_sld hx hb hX0 hbl hbA hS (i + 1) (by omega) (by omega) hL dL_law_878 ?_
  refine lv_aload_n hx hb dL_law_879 rfl (lv_at hl 0 rfl) ?_
  refine lv_iload_n hx hb dL_law_880 rfl (lv_at hl 3 rfl) ?_
  refine x_iconst hx hb dL_law_881 ?_
  refine x_iadd hx hb dL_law_882 ?_
  refine x_sld hx hb hX0 hbl hbA hS (i + 2) (by omega) (by omega) hL dL_law_883 ?_
  refine x_callV (As := [.int (iI (xI xs (i + 1))), .int (iI (xI xs (i + 2)))]) (rest := []) ⟨hx, hb, hml, hown, hts⟩ (kX4_silence x f q kq vq h g T K ik SB SS SN tn TB F V jc (xI xs (i + 1)) (xI xs (i + 2)) B hG hB (xI_r xs (i + 1)) (xI_r xs (i + 2))) (cwV 2 hts gL_law_X4_silence rfl rfl rfl ykVX4_silence ⟨Nat.le_of_ble_eq_true rfl, Nat.le_of_ble_eq_true rfl⟩) hP hK hD hS 0 3 rfl rfl lw_e1 [0, 1, 2, 3, 4, 5, 6, 7, 8, 9, 10, 11, 12, 13, 14, 15, 16, 17, 18, 19, 20, 21, 22, 23, 24, 25, 26, 27, 28, 29, 30, 31] lw_c1 lw_n1 (fun _ => lw_f1) (fun u => wC cI cB x f q kq vq h g u.1.2 u.2.1 u.2.2 ++ wM cI r (T, K2, ik, SB, SS, SN, tn, TB, F) X Y j) (fun _ => lw_q1) rfl hl.1 rfl (Nat.le_of_ble_eq_true rfl) dL_law_884 ⟨Nat.le_of_ble_eq_true rfl, Nat.le_of_ble_eq_true rfl⟩ (fun u H locs hu hP hD hS => ?_)
  refine W.eq (g2 := F0 m 887 ls [.int (iI u.1.1)]) rfl ?_
  refine lv_aload_n hx hb dL_law_887 rfl (lv_at hl 2 rfl) ?_
  refine lv_aload_n hx hb dL_law_888 rfl (lv_at hl 0 rfl) ?_
  refine lv_iload_n hx hb dL_law_889 rfl (lv_at hl 3 rfl) ?_
  refine x_iconst hx hb dL_law_890 ?_
  refine x_iadd hx hb dL_law_891 ?_
  refine x_sld hx hb hX0 hbl hbA hS (i + 1) (by omega) (by omega) hL dL_law_892 ?_
  refine lv_aload_n hx hb dL_law_893 rfl (lv_at hl 0 rfl) ?_
  refine lv_iload_n hx hb dL_law_894 rfl (lv_at hl 3 rfl) ?_
  refine x_iconst hx hb dL_law_895 ?_
  refine x_iadd hx hb dL_law_896 ?_
  refine x_sld hx hb hX0 hbl hbA hS (i + 2) (by omega) (by omega) hL dL_law_897 ?_
  refine x_callV (As := [.int (iI (xI xs (i + 1))), .int (iI (xI xs (i + 2)))]) (rest := [.int (iI u.1.1)]) ⟨hx, hb, hml, hown, hts⟩ (kX5_silence r T K2 ik SB SS SN tn TB F X Y j (xI xs (i + 1)) (xI xs (i + 2)) B hG2 hB (xI_r xs (i + 1)) (xI_r xs (i + 2))) (cwV 2 hts gL_law_X5_silence rfl rfl rfl ykVX5_silence ⟨Nat.le_of_ble_eq_true rfl, Nat.le_of_ble_eq_true rfl⟩) hP hK hD hS 32 4 rfl rfl lw_e2 [32, 33, 34, 35, 36, 37, 38, 39, 40, 41] lw_c2 lw_n2 (fun _ => lw_f2) (fun v => wC cI cB x f q kq vq h g u.1.2 u.2.1 u.2.2 ++ wM cI r v.1.2 v.2.1 v.2.2.1 v.2.2.2) (fun _ => lw_q2) rfl hl.1 rfl (Nat.le_of_ble_eq_true rfl) dL_law_898 ⟨Nat.le_of_ble_eq_true rfl, Nat.le_of_ble_eq_true rfl⟩ (fun v H locs hv hP hD hS => ?_)
  refine W.eq (g2 := F0 m 901 ls [.int (iI v.1.1), .int (iI u.1.1)]) rfl ?_
  have hE2 : eqK u.1 v.1 := by rw [show u.1 = _ from hu, show v.1 = _ from hv]; exact ek_silence (xI xs (i + 1)) (xI xs (i + 2)) T K K2 ik SB SS SN tn TB F hE
  have hZ1 : GIp (B + 61) u.1 := by rw [show u.1 = _ from hu]; exact gi_silence hG (xI_r xs (i + 1)) (xI_r xs (i + 2))
  have hZ2 : GIp (B + 61) v.1 := by rw [show v.1 = _ from hv]; exact gi_silence hG2 (xI_r xs (i + 1)) (xI_r xs (i + 2))
  exact x_eqI (tgt := 1490) hx hb hE2.1 dL_law_901 (by decide) (kk H locs (lwI_next hE2 hZ1 hZ2 hP hD hS))
end LWC1
