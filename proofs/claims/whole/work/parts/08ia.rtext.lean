theorem txA_s {TB : Nat → Int} {nn k : Nat} {n : Int} {r : Rs} (h1 : r.1 = true) (h3 : r.2.2.1 = 3) : txA TB nn (k + 1) n r = txA TB nn k (n + 1) (itF TB nn r.2.1 (nx TB nn r.2.2)) := by
  unfold txA
  rw [if_pos h1, if_neg (by omega), if_pos h3]
  rfl
theorem ok_n {ok : Bool} {r : Rs} {fa : Int} (h : okQ ok r fa) (h1 : ¬ ok = true) : -1 - fa < 0 ∧ 0 ≤ fa := by
  have h2 := (h.2 (by simpa using h1)).2
  omega
theorem ykSX5_text : yX5_text.cls ≠ "java/lang/invoke/MethodHandle" ∧ yX5_text.cls ≠ "java/lang/invoke/VarHandle" ∧ (parseMethodDescriptor yX5_text.desc).map (fun d => d.parameters.length) = some 0 := by decide +kernel
theorem ykVX5_text : yX5_text.cls = RX5 ∧ yX5_text.cls ≠ "java/lang/invoke/MethodHandle" ∧ yX5_text.cls ≠ "java/lang/invoke/VarHandle" ∧ (parseMethodDescriptor yX5_text.desc).map (fun d => d.parameters.length) = some 0 := ⟨rfl, ykSX5_text⟩
set_option maxRecDepth 20000 in
theorem iT_X5_text_X5 : ∀ w ∈ u_ws RX5 TX5 18, w ∈ wsX5_text := by decide +kernel
set_option maxHeartbeats 4000000 in
set_option maxRecDepth 100000 in
theorem kX5_text {l : Launch} {D : va_G} {cI cB : ClassId} (r : Nat → Nat) (T K : Tb) (ik : Int) (SB SS SN : Nat → Int) (tn : Int) (TB F : Nat → Int) (X Y : Tb) (j : Nat → Int) (B : Int) (hG : GI B T K ik SB SS SN tn TB F) (hB : B ≤ 40000)  : Ct l yX5_text wsX5_text 6 135 D [(cI, .int), (cB, .byte)] [.ref (r 0)] (wM cI r (T, K, ik, SB, SS, SN, tn, TB, F) X Y j) (S := (Int × Gs) × Tb × Tb × (Nat → Int)) (fun u => some (.int (iI u.1.1))) (fun u => u.1 = m_text T K ik SB SS SN tn TB F) (fun u => wM cI r u.1.2 u.2.1 u.2.2.1 u.2.2.2) := by
  refine CtI.of (cc := cX5_text) (maxL := 3) (by decide +kernel) rfl (Nat.le_of_ble_eq_true rfl) ?_
  intro pg e s m args below meth c Q A hx hb hml hts hown hP hK hD hS ls hl kend
  have hown : s.vm.findClass RX5 = some m.cls := hown
  have hl : lv_has ls 3 [(0, .ref (r 0))] := hl
  obtain ⟨hI, hIK, hik, hSB, hSS, hSN, htn, hTB, hF⟩ := id hG
  have hn := Inv_n hI
  have hdy := Inv_d hI
  have hP : va_P D vwCl (wRo r ik tn j ++ (wA cI (r 1) 100 T ++ (wA cI (r 2) 100 K ++ (wA cI (r 3) 100 X ++ (wA cI (r 4) 100 Y ++ (wA cI (r 5) 8 (fR F) ++ (wA cI (r 6) 120 TB ++ (wA cI (r 7) 4 (bR SB) ++ (wA cI (r 8) 4 SS ++ (wA cI (r 9) 160 SN)))))))))) s.heap := hP
  have hD : va_D A (wRo r ik tn j ++ (wA cI (r 1) 100 T ++ (wA cI (r 2) 100 K ++ (wA cI (r 3) 100 X ++ (wA cI (r 4) 100 Y ++ (wA cI (r 5) 8 (fR F) ++ (wA cI (r 6) 120 TB ++ (wA cI (r 7) 4 (bR SB) ++ (wA cI (r 8) 4 SS ++ (wA cI (r 9) 160 SN)))))))))) := hD
  obtain ⟨nn, rfl⟩ : ∃ nn : Nat, tn = (nn : Int) := ⟨tn.toNat, by omega⟩
  have hn9 : nn ≤ 120 := by omega
  have hP : va_P D vwCl (wRo r ik ((nn : Nat) : Int) (jk (j 0) (j 1) (j 2) (j 3) (j 4) (j 5) (j 6)) ++ (wA cI (r 1) 100 T ++ (wA cI (r 2) 100 K ++ (wA cI (r 3) 100 X ++ (wA cI (r 4) 100 Y ++ (wA cI (r 5) 8 (fR F) ++ (wA cI (r 6) 120 TB ++ (wA cI (r 7) 4 (bR SB) ++ (wA cI (r 8) 4 SS ++ (wA cI (r 9) 160 SN)))))))))) s.heap := hP
  have hD : va_D A (wRo r ik ((nn : Nat) : Int) (jk (j 0) (j 1) (j 2) (j 3) (j 4) (j 5) (j 6)) ++ (wA cI (r 1) 100 T ++ (wA cI (r 2) 100 K ++ (wA cI (r 3) 100 X ++ (wA cI (r 4) 100 Y ++ (wA cI (r 5) 8 (fR F) ++ (wA cI (r 6) 120 TB ++ (wA cI (r 7) 4 (bR SB) ++ (wA cI (r 8) 4 SS ++ (wA cI (r 9) 160 SN)))))))))) := hD
  refine lv_aload_n hx hb dX5_text_0 rfl (lv_at hl 0 rfl) ?_
  refine va_get (D := D) (ci := 4) (v := .ref (r 1)) (C := RX5) (T := TX5) (N := 18) hx hb hts (iT_X5_text_X5) hown hK hP 0 rfl rfl 0 (by decide) (hts (.fieldLink RX5 7 "WordSupperModel" "s" "[I") (by decide +kernel)) (fun _ h9 => h9) rfl dX5_text_1 ?_
  refine lv_aload_n hx hb dX5_text_4 rfl (lv_at hl 0 rfl) ?_
  refine va_get (D := D) (ci := 4) (v := .ref (r 3)) (C := RX5) (T := TX5) (N := 18) hx hb hts (iT_X5_text_X5) hown hK hP 0 rfl rfl 2 (by decide) (hts (.fieldLink RX5 16 "WordSupperModel" "before" "[I") (by decide +kernel)) (fun _ h9 => h9) rfl dX5_text_5 ?_
  refine x_callS (As := [.ref (r 1), .ref (r 3)]) (rest := []) ⟨hx, hb, hml, hown, hts⟩ (kX5_copyRow (r 1) T (r 3) X ) (va_cwS 2 hts gX5_text_X5_copyRow rfl rfl rfl ykSX5_copyRow ⟨Nat.le_of_ble_eq_true rfl, Nat.le_of_ble_eq_true rfl⟩) hP hK hD hS [1, 3] rfl (by decide) (fun _ => rfl) (fun _ => wRo r ik ((nn : Nat) : Int) (jk (j 0) (j 1) (j 2) (j 3) (j 4) (j 5) (j 6)) ++ (wA cI (r 1) 100 T ++ (wA cI (r 2) 100 K ++ (wA cI (r 3) 100 T ++ (wA cI (r 4) 100 Y ++ (wA cI (r 5) 8 (fR F) ++ (wA cI (r 6) 120 TB ++ (wA cI (r 7) 4 (bR SB) ++ (wA cI (r 8) 4 SS ++ (wA cI (r 9) 160 SN)))))))))) (fun _ => rfl) rfl hl.1 rfl (Nat.le_of_ble_eq_true rfl) dX5_text_8 ⟨Nat.le_of_ble_eq_true rfl, Nat.le_of_ble_eq_true rfl⟩ (fun _ H locs _ hP hD hS => ?_)
  refine W.eq (g2 := F0 m 11 ls []) rfl ?_
  refine lv_aload_n hx hb dX5_text_11 rfl (lv_at hl 0 rfl) ?_
  refine x_iconst hx hb dX5_text_12 ?_
  refine x_putI (D := D) (ty := .int) (C := RX5) (T := TX5) (N := 18) hx hb 4 hts (iT_X5_text_X5) tyX5 tyX5_ok nmX5 hown hK hP hD hS 0 rfl rfl 15 (by decide) (hts (.fieldLink RX5 202 "WordSupperModel" "to" "I") (by decide +kernel)) (fun _ h9 => h9) rfl (by decide +kernel) rfl rfl (Nat.le_of_ble_eq_true rfl) (wRo r ik ((nn : Nat) : Int) (jk (j 0) (j 1) (j 2) (j 3) 0 (j 5) (j 6)) ++ (wA cI (r 1) 100 T ++ (wA cI (r 2) 100 K ++ (wA cI (r 3) 100 T ++ (wA cI (r 4) 100 Y ++ (wA cI (r 5) 8 (fR F) ++ (wA cI (r 6) 120 TB ++ (wA cI (r 7) 4 (bR SB) ++ (wA cI (r 8) 4 SS ++ (wA cI (r 9) 160 SN)))))))))) (rfl) dX5_text_13 (fun H locs hP hD hS => ?_)
  refine lv_aload_n hx hb dX5_text_16 rfl (lv_at hl 0 rfl) ?_
  refine x_callV (As := []) (rest := []) ⟨hx, hb, hml, hown, hts⟩ (kX5_nextToken r ik ((nn : Nat) : Int) (j 0) (j 1) (j 2) (j 3) 0 (j 5) (j 6) TB nn 0 rfl hn9 hTB rfl (Nat.zero_le nn)) (cwV 0 hts gX5_text_X5_nextToken rfl rfl rfl ykVX5_nextToken ⟨Nat.le_of_ble_eq_true rfl, Nat.le_of_ble_eq_true rfl⟩) hP hK hD hS 0 4 rfl rfl rfl [0, 6] rfl (by decide) (fun _ => rfl) (fun u => wRo r ik ((nn : Nat) : Int) (jk (j 0) (j 1) u.1 u.2.1 u.2.2.1 u.2.2.2 (j 6)) ++ (wA cI (r 1) 100 T ++ (wA cI (r 2) 100 K ++ (wA cI (r 3) 100 T ++ (wA cI (r 4) 100 Y ++ (wA cI (r 5) 8 (fR F) ++ (wA cI (r 6) 120 TB ++ (wA cI (r 7) 4 (bR SB) ++ (wA cI (r 8) 4 SS ++ (wA cI (r 9) 160 SN)))))))))) (fun _ => rfl) rfl hl.1 rfl (Nat.le_of_ble_eq_true rfl) dX5_text_17 ⟨Nat.le_of_ble_eq_true rfl, Nat.le_of_ble_eq_true rfl⟩ (fun u5 H locs hp6 hP hD hS => ?_)
  obtain ⟨a11, a22, a33, a44⟩ := u5
  replace hp6 : tyR a11 a22 a33 a44 (tnF TB nn 0) := hp6
  have hP : va_P D vwCl (wRo r ik ((nn : Nat) : Int) (jk (j 0) (j 1) a11 a22 a33 a44 (j 6)) ++ (wA cI (r 1) 100 T ++ (wA cI (r 2) 100 K ++ (wA cI (r 3) 100 T ++ (wA cI (r 4) 100 Y ++ (wA cI (r 5) 8 (fR F) ++ (wA cI (r 6) 120 TB ++ (wA cI (r 7) 4 (bR SB) ++ (wA cI (r 8) 4 SS ++ (wA cI (r 9) 160 SN)))))))))) H := hP
  have hD : va_D A (wRo r ik ((nn : Nat) : Int) (jk (j 0) (j 1) a11 a22 a33 a44 (j 6)) ++ (wA cI (r 1) 100 T ++ (wA cI (r 2) 100 K ++ (wA cI (r 3) 100 T ++ (wA cI (r 4) 100 Y ++ (wA cI (r 5) 8 (fR F) ++ (wA cI (r 6) 120 TB ++ (wA cI (r 7) 4 (bR SB) ++ (wA cI (r 8) 4 SS ++ (wA cI (r 9) 160 SN)))))))))) := hD
  refine W.eq (g2 := F0 m 20 ls []) rfl ?_
  obtain ⟨p0, hp0⟩ : ∃ z, z = tnF TB nn 0 := ⟨_, rfl⟩
  have hp6 : tyR a11 a22 a33 a44 p0 := by rw [hp0]; exact hp6
  obtain ⟨rfl, rfl, rfl, hv_p0⟩ := hp6
  have hi_p0 : tkI nn p0 := by rw [hp0]; exact (tnF_I (Nat.zero_le nn)).1
  refine x_iconst hx hb dX5_text_20 ?_
  refine lv_istore_n (lv' := [(1, .int (iI 1)), (0, .ref (r 0))]) hx hb dX5_text_21 rfl hl (by decide) rfl (fun ls hl => ?_)
  refine lv_aload_n hx hb dX5_text_22 rfl (lv_at hl 1 rfl) ?_
  refine x_callV (As := []) (rest := []) ⟨hx, hb, hml, hown, hts⟩ (kX5_itemHere r ik ((nn : Nat) : Int) (j 0) (j 1) p0.1 ((p0.2.1 : Nat) : Int) ((p0.2.2.1 : Nat) : Int) a44 (j 6) T TB nn p0 rfl hn9 hTB ⟨rfl, rfl, rfl, hv_p0⟩ hi_p0 hn) (cwV 0 hts gX5_text_X5_itemHere rfl rfl rfl ykVX5_itemHere ⟨Nat.le_of_ble_eq_true rfl, Nat.le_of_ble_eq_true rfl⟩) hP hK hD hS 0 4 rfl rfl rfl [0, 1, 6] rfl (by decide) (fun _ => rfl) (fun u => wRo r ik ((nn : Nat) : Int) (jk (j 0) (j 1) u.1 u.2.1 u.2.2.1 u.2.2.2.1 u.2.2.2.2.1) ++ (wA cI (r 1) 100 u.2.2.2.2.2.1 ++ (wA cI (r 2) 100 K ++ (wA cI (r 3) 100 T ++ (wA cI (r 4) 100 Y ++ (wA cI (r 5) 8 (fR F) ++ (wA cI (r 6) 120 TB ++ (wA cI (r 7) 4 (bR SB) ++ (wA cI (r 8) 4 SS ++ (wA cI (r 9) 160 SN)))))))))) (fun _ => rfl) rfl hl.1 rfl (Nat.le_of_ble_eq_true rfl) dX5_text_23 ⟨Nat.le_of_ble_eq_true rfl, Nat.le_of_ble_eq_true rfl⟩ (fun u14 H locs hp15 hP hD hS => ?_)
  obtain ⟨a17, a28, a39, a410, fa111, T112, ok13⟩ := u14
  replace hp15 : rqP (itF TB nn T p0) a17 a28 a39 a410 fa111 T112 ok13 := hp15
  have hP : va_P D vwCl (wRo r ik ((nn : Nat) : Int) (jk (j 0) (j 1) a17 a28 a39 a410 fa111) ++ (wA cI (r 1) 100 T112 ++ (wA cI (r 2) 100 K ++ (wA cI (r 3) 100 T ++ (wA cI (r 4) 100 Y ++ (wA cI (r 5) 8 (fR F) ++ (wA cI (r 6) 120 TB ++ (wA cI (r 7) 4 (bR SB) ++ (wA cI (r 8) 4 SS ++ (wA cI (r 9) 160 SN)))))))))) H := hP
  have hD : va_D A (wRo r ik ((nn : Nat) : Int) (jk (j 0) (j 1) a17 a28 a39 a410 fa111) ++ (wA cI (r 1) 100 T112 ++ (wA cI (r 2) 100 K ++ (wA cI (r 3) 100 T ++ (wA cI (r 4) 100 Y ++ (wA cI (r 5) 8 (fR F) ++ (wA cI (r 6) 120 TB ++ (wA cI (r 7) 4 (bR SB) ++ (wA cI (r 8) 4 SS ++ (wA cI (r 9) 160 SN)))))))))) := hD
  refine W.eq (g2 := F0 m 26 ls [.int (iI (b2 (decide (ok13 = true))))]) rfl ?_
  obtain ⟨p16, hp16⟩ : ∃ z, z = (itF TB nn T p0).2.2 := ⟨_, rfl⟩
  have hT_p16 : T112 = (itF TB nn T p0).2.1 := hp15.1
  have hk_p16 : okQ ok13 (itF TB nn T p0) fa111 := hp15.2.2
  have hty : tyR a17 a28 a39 a410 p16 := by rw [hp16]; exact hp15.2.1
  obtain ⟨rfl, rfl, rfl, hv_p16⟩ := hty
  have hi_p16 : tkI nn p16 := by rw [hp16]; exact itF_I hi_p0
  have hT8_p16 : 0 ≤ T112 0 ∧ T112 0 ≤ 8 := by rw [hT_p16]; exact itF_0 hn
  refine lv_istore_n (lv' := [(2, .int (iI (b2 (decide (ok13 = true))))), (1, .int (iI 1)), (0, .ref (r 0))]) hx hb dX5_text_26 rfl hl (by decide) rfl (fun ls hl => ?_)
  have L27 : ∀ (k t : Nat) (rr : Rs) (Tt : Tb) (px : Tk) (vx : Int) (fx : Int) (ok : Bool) (H : Heap) (locs : List Loc) (ls : Array Slot), t + k = 119 → (txA TB nn k ((1 + t : Nat) : Int) rr = txF TB nn 120 1 T (tnF TB nn 0)) → (Tt = rr.2.1) → (px = rr.2.2) → (tkI nn px) → (px.1 = 2 → px.2.2.2 = min 1000 vx ∧ 0 ≤ vx ∧ vx ≤ 99999) → (okQ ok rr fx) → (rr.1 = true → 2 * t + 1 ≤ rr.2.2.2.1) → (0 ≤ Tt 0 ∧ Tt 0 ≤ 8) → va_P D vwCl (wRo r ik ((nn : Nat) : Int) (jk (j 0) (j 1) px.1 ((px.2.1 : Nat) : Int) ((px.2.2.1 : Nat) : Int) vx fx) ++ (wA cI (r 1) 100 Tt ++ (wA cI (r 2) 100 K ++ (wA cI (r 3) 100 T ++ (wA cI (r 4) 100 Y ++ (wA cI (r 5) 8 (fR F) ++ (wA cI (r 6) 120 TB ++ (wA cI (r 7) 4 (bR SB) ++ (wA cI (r 8) 4 SS ++ (wA cI (r 9) 160 SN)))))))))) H → va_D A (wRo r ik ((nn : Nat) : Int) (jk (j 0) (j 1) px.1 ((px.2.1 : Nat) : Int) ((px.2.2.1 : Nat) : Int) vx fx) ++ (wA cI (r 1) 100 Tt ++ (wA cI (r 2) 100 K ++ (wA cI (r 3) 100 T ++ (wA cI (r 4) 100 Y ++ (wA cI (r 5) 8 (fR F) ++ (wA cI (r 6) 120 TB ++ (wA cI (r 7) 4 (bR SB) ++ (wA cI (r 8) 4 SS ++ (wA cI (r 9) 160 SN)))))))))) → va_S A s.heap H locs → lv_has ls 3 [(0, .ref (r 0)), (1, .int (iI ((1 + t : Nat) : Int))), (2, .int (iI (b2 (decide (ok = true)))))] → W pg l e { frames := 6, cells := 0, slots := 0, locals := 135 } s m args below meth c H locs 0 0 Q (F0 m 27 ls []) := by
    intro k
    induction k with
    | zero =>
      intro t rr Tt px vx fx ok H locs ls hkt hr hT hpx hi_px hv_px hok hB hT8 hP hD hS hl
      refine lv_iload_n hx hb dX5_text_27 rfl (lv_at hl 2 rfl) ?_
      refine x_ifb_eq (tgt := 54) hx hb dX5_text_28 (by decide) (fun c_28 => ?_) (fun c_28 => ?_)
      · refine lv_iload_n hx hb dX5_text_54 rfl (lv_at hl 2 rfl) ?_
        refine x_ifb_eq (tgt := 76) hx hb dX5_text_55 (by decide) (fun c_55 => ?_) (fun c_55 => ?_)
        · refine x_iconst hx hb dX5_text_76 ?_
          refine lv_istore_n (lv' := [(2, .int (iI 0)), (0, .ref (r 0)), (1, .int (iI ((1 + t : Nat) : Int)))]) hx hb dX5_text_77 rfl hl (by decide) rfl (fun ls hl => ?_)
          refine lv_aload_n hx hb dX5_text_78 rfl (lv_at hl 1 rfl) ?_
          refine x_iconst hx hb dX5_text_79 ?_
          refine x_putI (D := D) (ty := .int) (C := RX5) (T := TX5) (N := 18) hx hb 4 hts (iT_X5_text_X5) tyX5 tyX5_ok nmX5 hown hK hP hD hS 0 rfl rfl 7 (by decide) (hts (.fieldLink RX5 199 "WordSupperModel" "taped" "I") (by decide +kernel)) (fun _ h9 => h9) rfl (by decide +kernel) rfl rfl (Nat.le_of_ble_eq_true rfl) (wRo r ik 0 (jk (j 0) (j 1) px.1 ((px.2.1 : Nat) : Int) ((px.2.2.1 : Nat) : Int) vx fx) ++ (wA cI (r 1) 100 Tt ++ (wA cI (r 2) 100 K ++ (wA cI (r 3) 100 T ++ (wA cI (r 4) 100 Y ++ (wA cI (r 5) 8 (fR F) ++ (wA cI (r 6) 120 TB ++ (wA cI (r 7) 4 (bR SB) ++ (wA cI (r 8) 4 SS ++ (wA cI (r 9) 160 SN)))))))))) (rfl) dX5_text_80 (fun H locs hP hD hS => ?_)
          refine lv_iload_n hx hb dX5_text_83 rfl (lv_at hl 0 rfl) ?_
          refine x_if_ne (tgt := 98) hx hb (by decide) dX5_text_84 (by decide) (fun c_84 => ?_) (fun c_84 => ?_)
          · exact absurd c_84 (by decide)
          · refine lv_aload_n hx hb dX5_text_87 rfl (lv_at hl 1 rfl) ?_
            refine va_get (D := D) (ci := 4) (v := .ref (r 3)) (C := RX5) (T := TX5) (N := 18) hx hb hts (iT_X5_text_X5) hown hK hP 0 rfl rfl 2 (by decide) (hts (.fieldLink RX5 16 "WordSupperModel" "before" "[I") (by decide +kernel)) (fun _ h9 => h9) rfl dX5_text_88 ?_
            refine lv_aload_n hx hb dX5_text_91 rfl (lv_at hl 1 rfl) ?_
            refine va_get (D := D) (ci := 4) (v := .ref (r 1)) (C := RX5) (T := TX5) (N := 18) hx hb hts (iT_X5_text_X5) hown hK hP 0 rfl rfl 0 (by decide) (hts (.fieldLink RX5 7 "WordSupperModel" "s" "[I") (by decide +kernel)) (fun _ h9 => h9) rfl dX5_text_92 ?_
            refine x_callS (As := [.ref (r 3), .ref (r 1)]) (rest := []) ⟨hx, hb, hml, hown, hts⟩ (kX5_copyRow (r 3) T (r 1) Tt ) (va_cwS 2 hts gX5_text_X5_copyRow rfl rfl rfl ykSX5_copyRow ⟨Nat.le_of_ble_eq_true rfl, Nat.le_of_ble_eq_true rfl⟩) hP hK hD hS [3, 1] rfl (by decide) (fun _ => rfl) (fun _ => wRo r ik 0 (jk (j 0) (j 1) px.1 ((px.2.1 : Nat) : Int) ((px.2.2.1 : Nat) : Int) vx fx) ++ (wA cI (r 1) 100 T ++ (wA cI (r 2) 100 K ++ (wA cI (r 3) 100 T ++ (wA cI (r 4) 100 Y ++ (wA cI (r 5) 8 (fR F) ++ (wA cI (r 6) 120 TB ++ (wA cI (r 7) 4 (bR SB) ++ (wA cI (r 8) 4 SS ++ (wA cI (r 9) 160 SN)))))))))) (fun _ => rfl) rfl hl.1 rfl (Nat.le_of_ble_eq_true rfl) dX5_text_95 ⟨Nat.le_of_ble_eq_true rfl, Nat.le_of_ble_eq_true rfl⟩ (fun _ H locs _ hP hD hS => ?_)
            refine W.eq (g2 := F0 m 98 ls []) rfl ?_
            refine lv_iload_n hx hb dX5_text_98 rfl (lv_at hl 0 rfl) ?_
            refine x_if_eq (tgt := 106) hx hb (by decide) dX5_text_99 (by decide) (fun c_99 => ?_) (fun c_99 => ?_)
            · have hfx0 := ok_n hok c_28
              have hfx := hfx0.1
              refine x_iconst hx hb dX5_text_106 ?_
              refine lv_aload_n hx hb dX5_text_107 rfl (lv_at hl 1 rfl) ?_
              refine va_get (D := D) (ci := 4) (v := .int (iI fx)) (C := RX5) (T := TX5) (N := 18) hx hb hts (iT_X5_text_X5) hown hK hP 0 rfl rfl 17 (by decide) (hts (.fieldLink RX5 223 "WordSupperModel" "faultAt" "I") (by decide +kernel)) (fun _ h9 => h9) rfl dX5_text_108 ?_
              refine x_isub hx hb dX5_text_111 ?_
              exact kend (((-1) - fx, T, K, ik, SB, SS, SN, 0, TB, F), T, Y, jk (j 0) (j 1) px.1 ((px.2.1 : Nat) : Int) ((px.2.2.1 : Nat) : Int) vx fx) hP hS rfl (tx_n (hr.symm.trans (txA_f hok c_28)) hfx) dX5_text_112
            · exact absurd c_99 (by decide)
        · exact absurd c_55 c_28
      · obtain ⟨z1, z2, z3, z4, z5, z6⟩ := id hi_px
        refine lv_aload_n hx hb dX5_text_31 rfl (lv_at hl 0 rfl) ?_
        refine va_get (D := D) (ci := 4) (v := .int (iI px.1)) (C := RX5) (T := TX5) (N := 18) hx hb hts (iT_X5_text_X5) hown hK hP 0 rfl rfl 13 (by decide) (hts (.fieldLink RX5 217 "WordSupperModel" "token" "I") (by decide +kernel)) (fun _ h9 => h9) rfl dX5_text_32 ?_
        refine x_iconst hx hb dX5_text_35 ?_
        refine x_icmp_ne (tgt := 54) hx hb (by omega) (by decide) dX5_text_36 (by decide) (fun c_36 => ?_) (fun c_36 => ?_)
        · refine lv_iload_n hx hb dX5_text_54 rfl (lv_at hl 2 rfl) ?_
          refine x_ifb_eq (tgt := 76) hx hb dX5_text_55 (by decide) (fun c_55 => ?_) (fun c_55 => ?_)
          · exact absurd c_28 c_55
          · refine lv_aload_n hx hb dX5_text_58 rfl (lv_at hl 0 rfl) ?_
            refine va_get (D := D) (ci := 4) (v := .int (iI px.1)) (C := RX5) (T := TX5) (N := 18) hx hb hts (iT_X5_text_X5) hown hK hP 0 rfl rfl 13 (by decide) (hts (.fieldLink RX5 217 "WordSupperModel" "token" "I") (by decide +kernel)) (fun _ h9 => h9) rfl dX5_text_59 ?_
            refine x_if_eq (tgt := 72) hx hb (by omega) dX5_text_62 (by decide) (fun c_62 => ?_) (fun c_62 => ?_)
            · refine x_iconst hx hb dX5_text_72 ?_
              refine lv_goto (tgt := 77) hx hb dX5_text_73 (by decide) ?_
              refine lv_istore_n (lv' := [(2, .int (iI 1)), (0, .ref (r 0)), (1, .int (iI ((1 + t : Nat) : Int)))]) hx hb dX5_text_77 rfl hl (by decide) rfl (fun ls hl => ?_)
              refine lv_aload_n hx hb dX5_text_78 rfl (lv_at hl 1 rfl) ?_
              refine x_iconst hx hb dX5_text_79 ?_
              refine x_putI (D := D) (ty := .int) (C := RX5) (T := TX5) (N := 18) hx hb 4 hts (iT_X5_text_X5) tyX5 tyX5_ok nmX5 hown hK hP hD hS 0 rfl rfl 7 (by decide) (hts (.fieldLink RX5 199 "WordSupperModel" "taped" "I") (by decide +kernel)) (fun _ h9 => h9) rfl (by decide +kernel) rfl rfl (Nat.le_of_ble_eq_true rfl) (wRo r ik 0 (jk (j 0) (j 1) px.1 ((px.2.1 : Nat) : Int) ((px.2.2.1 : Nat) : Int) vx fx) ++ (wA cI (r 1) 100 Tt ++ (wA cI (r 2) 100 K ++ (wA cI (r 3) 100 T ++ (wA cI (r 4) 100 Y ++ (wA cI (r 5) 8 (fR F) ++ (wA cI (r 6) 120 TB ++ (wA cI (r 7) 4 (bR SB) ++ (wA cI (r 8) 4 SS ++ (wA cI (r 9) 160 SN)))))))))) (rfl) dX5_text_80 (fun H locs hP hD hS => ?_)
              refine lv_iload_n hx hb dX5_text_83 rfl (lv_at hl 0 rfl) ?_
              refine x_if_ne (tgt := 98) hx hb (by decide) dX5_text_84 (by decide) (fun c_84 => ?_) (fun c_84 => ?_)
              · refine lv_iload_n hx hb dX5_text_98 rfl (lv_at hl 0 rfl) ?_
                refine x_if_eq (tgt := 106) hx hb (by decide) dX5_text_99 (by decide) (fun c_99 => ?_) (fun c_99 => ?_)
                · exact absurd c_99 (by decide)
                · refine lv_iload_n hx hb dX5_text_102 rfl (lv_at hl 2 rfl) ?_
                  refine lv_goto (tgt := 112) hx hb dX5_text_103 (by decide) ?_
                  exact kend ((((1 + t : Nat) : Int), Tt, K, ik, SB, SS, SN, 0, TB, F), T, Y, jk (j 0) (j 1) px.1 ((px.2.1 : Nat) : Int) ((px.2.2.1 : Nat) : Int) vx fx) hP hS rfl (tx_y (hr.symm.trans (by rw [txA, if_pos (hok.1 c_28), if_pos (by rw [← hpx]; omega), hT])) (by omega)) dX5_text_112
              · exact absurd c_84 (by decide)
            · refine lv_aload_n hx hb dX5_text_65 rfl (lv_at hl 0 rfl) ?_
              refine x_callV (As := []) (rest := []) ⟨hx, hb, hml, hown, hts⟩ (kX5_fails r ik ((nn : Nat) : Int) (j 0) (j 1) px.1 ((px.2.1 : Nat) : Int) ((px.2.2.1 : Nat) : Int) vx fx nn px ⟨rfl, rfl, rfl, hv_px⟩ hi_px) (cwV 0 hts gX5_text_X5_fails rfl rfl rfl ykVX5_fails ⟨Nat.le_of_ble_eq_true rfl, Nat.le_of_ble_eq_true rfl⟩) hP hK hD hS 0 4 rfl rfl rfl [0] rfl (by decide) (fun _ => rfl) (fun _ => wRo r ik ((nn : Nat) : Int) (jk (j 0) (j 1) px.1 ((px.2.1 : Nat) : Int) ((px.2.2.1 : Nat) : Int) vx ((px.2.1 : Nat) : Int)) ++ (wA cI (r 1) 100 Tt ++ (wA cI (r 2) 100 K ++ (wA cI (r 3) 100 T ++ (wA cI (r 4) 100 Y ++ (wA cI (r 5) 8 (fR F) ++ (wA cI (r 6) 120 TB ++ (wA cI (r 7) 4 (bR SB) ++ (wA cI (r 8) 4 SS ++ (wA cI (r 9) 160 SN)))))))))) (fun _ => rfl) rfl hl.1 rfl (Nat.le_of_ble_eq_true rfl) dX5_text_66 ⟨Nat.le_of_ble_eq_true rfl, Nat.le_of_ble_eq_true rfl⟩ (fun _ H locs _ hP hD hS => ?_)
              refine W.eq (g2 := F0 m 69 ls [.int (iI 0)]) rfl ?_
              refine x_if_eq (tgt := 76) hx hb (by decide) dX5_text_69 (by decide) (fun c_69 => ?_) (fun c_69 => ?_)
              · refine x_iconst hx hb dX5_text_76 ?_
                refine lv_istore_n (lv' := [(2, .int (iI 0)), (0, .ref (r 0)), (1, .int (iI ((1 + t : Nat) : Int)))]) hx hb dX5_text_77 rfl hl (by decide) rfl (fun ls hl => ?_)
                refine lv_aload_n hx hb dX5_text_78 rfl (lv_at hl 1 rfl) ?_
                refine x_iconst hx hb dX5_text_79 ?_
                refine x_putI (D := D) (ty := .int) (C := RX5) (T := TX5) (N := 18) hx hb 4 hts (iT_X5_text_X5) tyX5 tyX5_ok nmX5 hown hK hP hD hS 0 rfl rfl 7 (by decide) (hts (.fieldLink RX5 199 "WordSupperModel" "taped" "I") (by decide +kernel)) (fun _ h9 => h9) rfl (by decide +kernel) rfl rfl (Nat.le_of_ble_eq_true rfl) (wRo r ik 0 (jk (j 0) (j 1) px.1 ((px.2.1 : Nat) : Int) ((px.2.2.1 : Nat) : Int) vx ((px.2.1 : Nat) : Int)) ++ (wA cI (r 1) 100 Tt ++ (wA cI (r 2) 100 K ++ (wA cI (r 3) 100 T ++ (wA cI (r 4) 100 Y ++ (wA cI (r 5) 8 (fR F) ++ (wA cI (r 6) 120 TB ++ (wA cI (r 7) 4 (bR SB) ++ (wA cI (r 8) 4 SS ++ (wA cI (r 9) 160 SN)))))))))) (rfl) dX5_text_80 (fun H locs hP hD hS => ?_)
                refine lv_iload_n hx hb dX5_text_83 rfl (lv_at hl 0 rfl) ?_
                refine x_if_ne (tgt := 98) hx hb (by decide) dX5_text_84 (by decide) (fun c_84 => ?_) (fun c_84 => ?_)
                · exact absurd c_84 (by decide)
                · refine lv_aload_n hx hb dX5_text_87 rfl (lv_at hl 1 rfl) ?_
                  refine va_get (D := D) (ci := 4) (v := .ref (r 3)) (C := RX5) (T := TX5) (N := 18) hx hb hts (iT_X5_text_X5) hown hK hP 0 rfl rfl 2 (by decide) (hts (.fieldLink RX5 16 "WordSupperModel" "before" "[I") (by decide +kernel)) (fun _ h9 => h9) rfl dX5_text_88 ?_
                  refine lv_aload_n hx hb dX5_text_91 rfl (lv_at hl 1 rfl) ?_
                  refine va_get (D := D) (ci := 4) (v := .ref (r 1)) (C := RX5) (T := TX5) (N := 18) hx hb hts (iT_X5_text_X5) hown hK hP 0 rfl rfl 0 (by decide) (hts (.fieldLink RX5 7 "WordSupperModel" "s" "[I") (by decide +kernel)) (fun _ h9 => h9) rfl dX5_text_92 ?_
                  refine x_callS (As := [.ref (r 3), .ref (r 1)]) (rest := []) ⟨hx, hb, hml, hown, hts⟩ (kX5_copyRow (r 3) T (r 1) Tt ) (va_cwS 2 hts gX5_text_X5_copyRow rfl rfl rfl ykSX5_copyRow ⟨Nat.le_of_ble_eq_true rfl, Nat.le_of_ble_eq_true rfl⟩) hP hK hD hS [3, 1] rfl (by decide) (fun _ => rfl) (fun _ => wRo r ik 0 (jk (j 0) (j 1) px.1 ((px.2.1 : Nat) : Int) ((px.2.2.1 : Nat) : Int) vx ((px.2.1 : Nat) : Int)) ++ (wA cI (r 1) 100 T ++ (wA cI (r 2) 100 K ++ (wA cI (r 3) 100 T ++ (wA cI (r 4) 100 Y ++ (wA cI (r 5) 8 (fR F) ++ (wA cI (r 6) 120 TB ++ (wA cI (r 7) 4 (bR SB) ++ (wA cI (r 8) 4 SS ++ (wA cI (r 9) 160 SN)))))))))) (fun _ => rfl) rfl hl.1 rfl (Nat.le_of_ble_eq_true rfl) dX5_text_95 ⟨Nat.le_of_ble_eq_true rfl, Nat.le_of_ble_eq_true rfl⟩ (fun _ H locs _ hP hD hS => ?_)
                  refine W.eq (g2 := F0 m 98 ls []) rfl ?_
                  refine lv_iload_n hx hb dX5_text_98 rfl (lv_at hl 0 rfl) ?_
                  refine x_if_eq (tgt := 106) hx hb (by decide) dX5_text_99 (by decide) (fun c_99 => ?_) (fun c_99 => ?_)
                  · refine x_iconst hx hb dX5_text_106 ?_
                    refine lv_aload_n hx hb dX5_text_107 rfl (lv_at hl 1 rfl) ?_
                    refine va_get (D := D) (ci := 4) (v := .int (iI ((px.2.1 : Nat) : Int))) (C := RX5) (T := TX5) (N := 18) hx hb hts (iT_X5_text_X5) hown hK hP 0 rfl rfl 17 (by decide) (hts (.fieldLink RX5 223 "WordSupperModel" "faultAt" "I") (by decide +kernel)) (fun _ h9 => h9) rfl dX5_text_108 ?_
                    refine x_isub hx hb dX5_text_111 ?_
                    exact kend (((-1) - ((px.2.1 : Nat) : Int), T, K, ik, SB, SS, SN, 0, TB, F), T, Y, jk (j 0) (j 1) px.1 ((px.2.1 : Nat) : Int) ((px.2.2.1 : Nat) : Int) vx ((px.2.1 : Nat) : Int)) hP hS rfl (tx_n (hr.symm.trans (by rw [txA, if_pos (hok.1 c_28), if_neg (by rw [← hpx]; omega), if_neg (by rw [← hpx]; omega), ← hpx])) (by omega)) dX5_text_112
                  · exact absurd c_99 (by decide)
              · exact absurd c_69 (by decide)
        · exfalso; have q9 := hB (hok.1 c_28); rw [← hpx] at q9; have q8 := hi_px.1; omega
    | succ k ih =>
      intro t rr Tt px vx fx ok H locs ls hkt hr hT hpx hi_px hv_px hok hB hT8 hP hD hS hl
      refine lv_iload_n hx hb dX5_text_27 rfl (lv_at hl 2 rfl) ?_
      refine x_ifb_eq (tgt := 54) hx hb dX5_text_28 (by decide) (fun c_28 => ?_) (fun c_28 => ?_)
      · refine lv_iload_n hx hb dX5_text_54 rfl (lv_at hl 2 rfl) ?_
        refine x_ifb_eq (tgt := 76) hx hb dX5_text_55 (by decide) (fun c_55 => ?_) (fun c_55 => ?_)
        · refine x_iconst hx hb dX5_text_76 ?_
          refine lv_istore_n (lv' := [(2, .int (iI 0)), (0, .ref (r 0)), (1, .int (iI ((1 + t : Nat) : Int)))]) hx hb dX5_text_77 rfl hl (by decide) rfl (fun ls hl => ?_)
          refine lv_aload_n hx hb dX5_text_78 rfl (lv_at hl 1 rfl) ?_
          refine x_iconst hx hb dX5_text_79 ?_
          refine x_putI (D := D) (ty := .int) (C := RX5) (T := TX5) (N := 18) hx hb 4 hts (iT_X5_text_X5) tyX5 tyX5_ok nmX5 hown hK hP hD hS 0 rfl rfl 7 (by decide) (hts (.fieldLink RX5 199 "WordSupperModel" "taped" "I") (by decide +kernel)) (fun _ h9 => h9) rfl (by decide +kernel) rfl rfl (Nat.le_of_ble_eq_true rfl) (wRo r ik 0 (jk (j 0) (j 1) px.1 ((px.2.1 : Nat) : Int) ((px.2.2.1 : Nat) : Int) vx fx) ++ (wA cI (r 1) 100 Tt ++ (wA cI (r 2) 100 K ++ (wA cI (r 3) 100 T ++ (wA cI (r 4) 100 Y ++ (wA cI (r 5) 8 (fR F) ++ (wA cI (r 6) 120 TB ++ (wA cI (r 7) 4 (bR SB) ++ (wA cI (r 8) 4 SS ++ (wA cI (r 9) 160 SN)))))))))) (rfl) dX5_text_80 (fun H locs hP hD hS => ?_)
          refine lv_iload_n hx hb dX5_text_83 rfl (lv_at hl 0 rfl) ?_
          refine x_if_ne (tgt := 98) hx hb (by decide) dX5_text_84 (by decide) (fun c_84 => ?_) (fun c_84 => ?_)
          · exact absurd c_84 (by decide)
          · refine lv_aload_n hx hb dX5_text_87 rfl (lv_at hl 1 rfl) ?_
            refine va_get (D := D) (ci := 4) (v := .ref (r 3)) (C := RX5) (T := TX5) (N := 18) hx hb hts (iT_X5_text_X5) hown hK hP 0 rfl rfl 2 (by decide) (hts (.fieldLink RX5 16 "WordSupperModel" "before" "[I") (by decide +kernel)) (fun _ h9 => h9) rfl dX5_text_88 ?_
            refine lv_aload_n hx hb dX5_text_91 rfl (lv_at hl 1 rfl) ?_
            refine va_get (D := D) (ci := 4) (v := .ref (r 1)) (C := RX5) (T := TX5) (N := 18) hx hb hts (iT_X5_text_X5) hown hK hP 0 rfl rfl 0 (by decide) (hts (.fieldLink RX5 7 "WordSupperModel" "s" "[I") (by decide +kernel)) (fun _ h9 => h9) rfl dX5_text_92 ?_
            refine x_callS (As := [.ref (r 3), .ref (r 1)]) (rest := []) ⟨hx, hb, hml, hown, hts⟩ (kX5_copyRow (r 3) T (r 1) Tt ) (va_cwS 2 hts gX5_text_X5_copyRow rfl rfl rfl ykSX5_copyRow ⟨Nat.le_of_ble_eq_true rfl, Nat.le_of_ble_eq_true rfl⟩) hP hK hD hS [3, 1] rfl (by decide) (fun _ => rfl) (fun _ => wRo r ik 0 (jk (j 0) (j 1) px.1 ((px.2.1 : Nat) : Int) ((px.2.2.1 : Nat) : Int) vx fx) ++ (wA cI (r 1) 100 T ++ (wA cI (r 2) 100 K ++ (wA cI (r 3) 100 T ++ (wA cI (r 4) 100 Y ++ (wA cI (r 5) 8 (fR F) ++ (wA cI (r 6) 120 TB ++ (wA cI (r 7) 4 (bR SB) ++ (wA cI (r 8) 4 SS ++ (wA cI (r 9) 160 SN)))))))))) (fun _ => rfl) rfl hl.1 rfl (Nat.le_of_ble_eq_true rfl) dX5_text_95 ⟨Nat.le_of_ble_eq_true rfl, Nat.le_of_ble_eq_true rfl⟩ (fun _ H locs _ hP hD hS => ?_)
            refine W.eq (g2 := F0 m 98 ls []) rfl ?_
            refine lv_iload_n hx hb dX5_text_98 rfl (lv_at hl 0 rfl) ?_
            refine x_if_eq (tgt := 106) hx hb (by decide) dX5_text_99 (by decide) (fun c_99 => ?_) (fun c_99 => ?_)
            · have hfx0 := ok_n hok c_28
              have hfx := hfx0.1
              refine x_iconst hx hb dX5_text_106 ?_
              refine lv_aload_n hx hb dX5_text_107 rfl (lv_at hl 1 rfl) ?_
              refine va_get (D := D) (ci := 4) (v := .int (iI fx)) (C := RX5) (T := TX5) (N := 18) hx hb hts (iT_X5_text_X5) hown hK hP 0 rfl rfl 17 (by decide) (hts (.fieldLink RX5 223 "WordSupperModel" "faultAt" "I") (by decide +kernel)) (fun _ h9 => h9) rfl dX5_text_108 ?_
              refine x_isub hx hb dX5_text_111 ?_
              exact kend (((-1) - fx, T, K, ik, SB, SS, SN, 0, TB, F), T, Y, jk (j 0) (j 1) px.1 ((px.2.1 : Nat) : Int) ((px.2.2.1 : Nat) : Int) vx fx) hP hS rfl (tx_n (hr.symm.trans (txA_f hok c_28)) hfx) dX5_text_112
            · exact absurd c_99 (by decide)
        · exact absurd c_55 c_28
      · obtain ⟨z1, z2, z3, z4, z5, z6⟩ := id hi_px
        refine lv_aload_n hx hb dX5_text_31 rfl (lv_at hl 0 rfl) ?_
        refine va_get (D := D) (ci := 4) (v := .int (iI px.1)) (C := RX5) (T := TX5) (N := 18) hx hb hts (iT_X5_text_X5) hown hK hP 0 rfl rfl 13 (by decide) (hts (.fieldLink RX5 217 "WordSupperModel" "token" "I") (by decide +kernel)) (fun _ h9 => h9) rfl dX5_text_32 ?_
        refine x_iconst hx hb dX5_text_35 ?_
        refine x_icmp_ne (tgt := 54) hx hb (by omega) (by decide) dX5_text_36 (by decide) (fun c_36 => ?_) (fun c_36 => ?_)
        · refine lv_iload_n hx hb dX5_text_54 rfl (lv_at hl 2 rfl) ?_
          refine x_ifb_eq (tgt := 76) hx hb dX5_text_55 (by decide) (fun c_55 => ?_) (fun c_55 => ?_)
          · exact absurd c_28 c_55
          · refine lv_aload_n hx hb dX5_text_58 rfl (lv_at hl 0 rfl) ?_
            refine va_get (D := D) (ci := 4) (v := .int (iI px.1)) (C := RX5) (T := TX5) (N := 18) hx hb hts (iT_X5_text_X5) hown hK hP 0 rfl rfl 13 (by decide) (hts (.fieldLink RX5 217 "WordSupperModel" "token" "I") (by decide +kernel)) (fun _ h9 => h9) rfl dX5_text_59 ?_
            refine x_if_eq (tgt := 72) hx hb (by omega) dX5_text_62 (by decide) (fun c_62 => ?_) (fun c_62 => ?_)
            · refine x_iconst hx hb dX5_text_72 ?_
              refine lv_goto (tgt := 77) hx hb dX5_text_73 (by decide) ?_
              refine lv_istore_n (lv' := [(2, .int (iI 1)), (0, .ref (r 0)), (1, .int (iI ((1 + t : Nat) : Int)))]) hx hb dX5_text_77 rfl hl (by decide) rfl (fun ls hl => ?_)
              refine lv_aload_n hx hb dX5_text_78 rfl (lv_at hl 1 rfl) ?_
              refine x_iconst hx hb dX5_text_79 ?_
              refine x_putI (D := D) (ty := .int) (C := RX5) (T := TX5) (N := 18) hx hb 4 hts (iT_X5_text_X5) tyX5 tyX5_ok nmX5 hown hK hP hD hS 0 rfl rfl 7 (by decide) (hts (.fieldLink RX5 199 "WordSupperModel" "taped" "I") (by decide +kernel)) (fun _ h9 => h9) rfl (by decide +kernel) rfl rfl (Nat.le_of_ble_eq_true rfl) (wRo r ik 0 (jk (j 0) (j 1) px.1 ((px.2.1 : Nat) : Int) ((px.2.2.1 : Nat) : Int) vx fx) ++ (wA cI (r 1) 100 Tt ++ (wA cI (r 2) 100 K ++ (wA cI (r 3) 100 T ++ (wA cI (r 4) 100 Y ++ (wA cI (r 5) 8 (fR F) ++ (wA cI (r 6) 120 TB ++ (wA cI (r 7) 4 (bR SB) ++ (wA cI (r 8) 4 SS ++ (wA cI (r 9) 160 SN)))))))))) (rfl) dX5_text_80 (fun H locs hP hD hS => ?_)
              refine lv_iload_n hx hb dX5_text_83 rfl (lv_at hl 0 rfl) ?_
              refine x_if_ne (tgt := 98) hx hb (by decide) dX5_text_84 (by decide) (fun c_84 => ?_) (fun c_84 => ?_)
              · refine lv_iload_n hx hb dX5_text_98 rfl (lv_at hl 0 rfl) ?_
                refine x_if_eq (tgt := 106) hx hb (by decide) dX5_text_99 (by decide) (fun c_99 => ?_) (fun c_99 => ?_)
                · exact absurd c_99 (by decide)
                · refine lv_iload_n hx hb dX5_text_102 rfl (lv_at hl 2 rfl) ?_
                  refine lv_goto (tgt := 112) hx hb dX5_text_103 (by decide) ?_
                  exact kend ((((1 + t : Nat) : Int), Tt, K, ik, SB, SS, SN, 0, TB, F), T, Y, jk (j 0) (j 1) px.1 ((px.2.1 : Nat) : Int) ((px.2.2.1 : Nat) : Int) vx fx) hP hS rfl (tx_y (hr.symm.trans (by rw [txA, if_pos (hok.1 c_28), if_pos (by rw [← hpx]; omega), hT])) (by omega)) dX5_text_112
              · exact absurd c_84 (by decide)
            · refine lv_aload_n hx hb dX5_text_65 rfl (lv_at hl 0 rfl) ?_
              refine x_callV (As := []) (rest := []) ⟨hx, hb, hml, hown, hts⟩ (kX5_fails r ik ((nn : Nat) : Int) (j 0) (j 1) px.1 ((px.2.1 : Nat) : Int) ((px.2.2.1 : Nat) : Int) vx fx nn px ⟨rfl, rfl, rfl, hv_px⟩ hi_px) (cwV 0 hts gX5_text_X5_fails rfl rfl rfl ykVX5_fails ⟨Nat.le_of_ble_eq_true rfl, Nat.le_of_ble_eq_true rfl⟩) hP hK hD hS 0 4 rfl rfl rfl [0] rfl (by decide) (fun _ => rfl) (fun _ => wRo r ik ((nn : Nat) : Int) (jk (j 0) (j 1) px.1 ((px.2.1 : Nat) : Int) ((px.2.2.1 : Nat) : Int) vx ((px.2.1 : Nat) : Int)) ++ (wA cI (r 1) 100 Tt ++ (wA cI (r 2) 100 K ++ (wA cI (r 3) 100 T ++ (wA cI (r 4) 100 Y ++ (wA cI (r 5) 8 (fR F) ++ (wA cI (r 6) 120 TB ++ (wA cI (r 7) 4 (bR SB) ++ (wA cI (r 8) 4 SS ++ (wA cI (r 9) 160 SN)))))))))) (fun _ => rfl) rfl hl.1 rfl (Nat.le_of_ble_eq_true rfl) dX5_text_66 ⟨Nat.le_of_ble_eq_true rfl, Nat.le_of_ble_eq_true rfl⟩ (fun _ H locs _ hP hD hS => ?_)
              refine W.eq (g2 := F0 m 69 ls [.int (iI 0)]) rfl ?_
              refine x_if_eq (tgt := 76) hx hb (by decide) dX5_text_69 (by decide) (fun c_69 => ?_) (fun c_69 => ?_)
              · refine x_iconst hx hb dX5_text_76 ?_
                refine lv_istore_n (lv' := [(2, .int (iI 0)), (0, .ref (r 0)), (1, .int (iI ((1 + t : Nat) : Int)))]) hx hb dX5_text_77 rfl hl (by decide) rfl (fun ls hl => ?_)
                refine lv_aload_n hx hb dX5_text_78 rfl (lv_at hl 1 rfl) ?_
                refine x_iconst hx hb dX5_text_79 ?_
                refine x_putI (D := D) (ty := .int) (C := RX5) (T := TX5) (N := 18) hx hb 4 hts (iT_X5_text_X5) tyX5 tyX5_ok nmX5 hown hK hP hD hS 0 rfl rfl 7 (by decide) (hts (.fieldLink RX5 199 "WordSupperModel" "taped" "I") (by decide +kernel)) (fun _ h9 => h9) rfl (by decide +kernel) rfl rfl (Nat.le_of_ble_eq_true rfl) (wRo r ik 0 (jk (j 0) (j 1) px.1 ((px.2.1 : Nat) : Int) ((px.2.2.1 : Nat) : Int) vx ((px.2.1 : Nat) : Int)) ++ (wA cI (r 1) 100 Tt ++ (wA cI (r 2) 100 K ++ (wA cI (r 3) 100 T ++ (wA cI (r 4) 100 Y ++ (wA cI (r 5) 8 (fR F) ++ (wA cI (r 6) 120 TB ++ (wA cI (r 7) 4 (bR SB) ++ (wA cI (r 8) 4 SS ++ (wA cI (r 9) 160 SN)))))))))) (rfl) dX5_text_80 (fun H locs hP hD hS => ?_)
                refine lv_iload_n hx hb dX5_text_83 rfl (lv_at hl 0 rfl) ?_
                refine x_if_ne (tgt := 98) hx hb (by decide) dX5_text_84 (by decide) (fun c_84 => ?_) (fun c_84 => ?_)
                · exact absurd c_84 (by decide)
                · refine lv_aload_n hx hb dX5_text_87 rfl (lv_at hl 1 rfl) ?_
                  refine va_get (D := D) (ci := 4) (v := .ref (r 3)) (C := RX5) (T := TX5) (N := 18) hx hb hts (iT_X5_text_X5) hown hK hP 0 rfl rfl 2 (by decide) (hts (.fieldLink RX5 16 "WordSupperModel" "before" "[I") (by decide +kernel)) (fun _ h9 => h9) rfl dX5_text_88 ?_
                  refine lv_aload_n hx hb dX5_text_91 rfl (lv_at hl 1 rfl) ?_
                  refine va_get (D := D) (ci := 4) (v := .ref (r 1)) (C := RX5) (T := TX5) (N := 18) hx hb hts (iT_X5_text_X5) hown hK hP 0 rfl rfl 0 (by decide) (hts (.fieldLink RX5 7 "WordSupperModel" "s" "[I") (by decide +kernel)) (fun _ h9 => h9) rfl dX5_text_92 ?_
                  refine x_callS (As := [.ref (r 3), .ref (r 1)]) (rest := []) ⟨hx, hb, hml, hown, hts⟩ (kX5_copyRow (r 3) T (r 1) Tt ) (va_cwS 2 hts gX5_text_X5_copyRow rfl rfl rfl ykSX5_copyRow ⟨Nat.le_of_ble_eq_true rfl, Nat.le_of_ble_eq_true rfl⟩) hP hK hD hS [3, 1] rfl (by decide) (fun _ => rfl) (fun _ => wRo r ik 0 (jk (j 0) (j 1) px.1 ((px.2.1 : Nat) : Int) ((px.2.2.1 : Nat) : Int) vx ((px.2.1 : Nat) : Int)) ++ (wA cI (r 1) 100 T ++ (wA cI (r 2) 100 K ++ (wA cI (r 3) 100 T ++ (wA cI (r 4) 100 Y ++ (wA cI (r 5) 8 (fR F) ++ (wA cI (r 6) 120 TB ++ (wA cI (r 7) 4 (bR SB) ++ (wA cI (r 8) 4 SS ++ (wA cI (r 9) 160 SN)))))))))) (fun _ => rfl) rfl hl.1 rfl (Nat.le_of_ble_eq_true rfl) dX5_text_95 ⟨Nat.le_of_ble_eq_true rfl, Nat.le_of_ble_eq_true rfl⟩ (fun _ H locs _ hP hD hS => ?_)
                  refine W.eq (g2 := F0 m 98 ls []) rfl ?_
                  refine lv_iload_n hx hb dX5_text_98 rfl (lv_at hl 0 rfl) ?_
                  refine x_if_eq (tgt := 106) hx hb (by decide) dX5_text_99 (by decide) (fun c_99 => ?_) (fun c_99 => ?_)
                  · refine x_iconst hx hb dX5_text_106 ?_
                    refine lv_aload_n hx hb dX5_text_107 rfl (lv_at hl 1 rfl) ?_
                    refine va_get (D := D) (ci := 4) (v := .int (iI ((px.2.1 : Nat) : Int))) (C := RX5) (T := TX5) (N := 18) hx hb hts (iT_X5_text_X5) hown hK hP 0 rfl rfl 17 (by decide) (hts (.fieldLink RX5 223 "WordSupperModel" "faultAt" "I") (by decide +kernel)) (fun _ h9 => h9) rfl dX5_text_108 ?_
                    refine x_isub hx hb dX5_text_111 ?_
                    exact kend (((-1) - ((px.2.1 : Nat) : Int), T, K, ik, SB, SS, SN, 0, TB, F), T, Y, jk (j 0) (j 1) px.1 ((px.2.1 : Nat) : Int) ((px.2.2.1 : Nat) : Int) vx ((px.2.1 : Nat) : Int)) hP hS rfl (tx_n (hr.symm.trans (by rw [txA, if_pos (hok.1 c_28), if_neg (by rw [← hpx]; omega), if_neg (by rw [← hpx]; omega), ← hpx])) (by omega)) dX5_text_112
                  · exact absurd c_99 (by decide)
              · exact absurd c_69 (by decide)
        · refine lv_aload_n hx hb dX5_text_39 rfl (lv_at hl 0 rfl) ?_
          refine x_callV (As := []) (rest := []) ⟨hx, hb, hml, hown, hts⟩ (kX5_nextToken r ik ((nn : Nat) : Int) (j 0) (j 1) px.1 ((px.2.1 : Nat) : Int) ((px.2.2.1 : Nat) : Int) vx fx TB nn px.2.2.1 rfl hn9 hTB rfl hi_px.2.1) (cwV 0 hts gX5_text_X5_nextToken rfl rfl rfl ykVX5_nextToken ⟨Nat.le_of_ble_eq_true rfl, Nat.le_of_ble_eq_true rfl⟩) hP hK hD hS 0 4 rfl rfl rfl [0, 6] rfl (by decide) (fun _ => rfl) (fun u => wRo r ik ((nn : Nat) : Int) (jk (j 0) (j 1) u.1 u.2.1 u.2.2.1 u.2.2.2 fx) ++ (wA cI (r 1) 100 Tt ++ (wA cI (r 2) 100 K ++ (wA cI (r 3) 100 T ++ (wA cI (r 4) 100 Y ++ (wA cI (r 5) 8 (fR F) ++ (wA cI (r 6) 120 TB ++ (wA cI (r 7) 4 (bR SB) ++ (wA cI (r 8) 4 SS ++ (wA cI (r 9) 160 SN)))))))))) (fun _ => rfl) rfl hl.1 rfl (Nat.le_of_ble_eq_true rfl) dX5_text_40 ⟨Nat.le_of_ble_eq_true rfl, Nat.le_of_ble_eq_true rfl⟩ (fun u21 H locs hp22 hP hD hS => ?_)
          obtain ⟨a117, a218, a319, a420⟩ := u21
          replace hp22 : tyR a117 a218 a319 a420 (tnF TB nn px.2.2.1) := hp22
          have hP : va_P D vwCl (wRo r ik ((nn : Nat) : Int) (jk (j 0) (j 1) a117 a218 a319 a420 fx) ++ (wA cI (r 1) 100 Tt ++ (wA cI (r 2) 100 K ++ (wA cI (r 3) 100 T ++ (wA cI (r 4) 100 Y ++ (wA cI (r 5) 8 (fR F) ++ (wA cI (r 6) 120 TB ++ (wA cI (r 7) 4 (bR SB) ++ (wA cI (r 8) 4 SS ++ (wA cI (r 9) 160 SN)))))))))) H := hP
          have hD : va_D A (wRo r ik ((nn : Nat) : Int) (jk (j 0) (j 1) a117 a218 a319 a420 fx) ++ (wA cI (r 1) 100 Tt ++ (wA cI (r 2) 100 K ++ (wA cI (r 3) 100 T ++ (wA cI (r 4) 100 Y ++ (wA cI (r 5) 8 (fR F) ++ (wA cI (r 6) 120 TB ++ (wA cI (r 7) 4 (bR SB) ++ (wA cI (r 8) 4 SS ++ (wA cI (r 9) 160 SN)))))))))) := hD
          refine W.eq (g2 := F0 m 43 ls []) rfl ?_
          obtain ⟨p23, hp23⟩ : ∃ z, z = nx TB nn px := ⟨_, rfl⟩
          have hp22 : tyR a117 a218 a319 a420 p23 := by rw [hp23]; exact hp22
          obtain ⟨rfl, rfl, rfl, hv_p23⟩ := hp22
          have hi_p23 : tkI nn p23 := by rw [hp23]; exact (nx_I hi_px).1
          refine lv_aload_n hx hb dX5_text_43 rfl (lv_at hl 0 rfl) ?_
          refine x_callV (As := []) (rest := []) ⟨hx, hb, hml, hown, hts⟩ (kX5_itemHere r ik ((nn : Nat) : Int) (j 0) (j 1) p23.1 ((p23.2.1 : Nat) : Int) ((p23.2.2.1 : Nat) : Int) a420 fx Tt TB nn p23 rfl hn9 hTB ⟨rfl, rfl, rfl, hv_p23⟩ hi_p23 hT8) (cwV 0 hts gX5_text_X5_itemHere rfl rfl rfl ykVX5_itemHere ⟨Nat.le_of_ble_eq_true rfl, Nat.le_of_ble_eq_true rfl⟩) hP hK hD hS 0 4 rfl rfl rfl [0, 1, 6] rfl (by decide) (fun _ => rfl) (fun u => wRo r ik ((nn : Nat) : Int) (jk (j 0) (j 1) u.1 u.2.1 u.2.2.1 u.2.2.2.1 u.2.2.2.2.1) ++ (wA cI (r 1) 100 u.2.2.2.2.2.1 ++ (wA cI (r 2) 100 K ++ (wA cI (r 3) 100 T ++ (wA cI (r 4) 100 Y ++ (wA cI (r 5) 8 (fR F) ++ (wA cI (r 6) 120 TB ++ (wA cI (r 7) 4 (bR SB) ++ (wA cI (r 8) 4 SS ++ (wA cI (r 9) 160 SN)))))))))) (fun _ => rfl) rfl hl.1 rfl (Nat.le_of_ble_eq_true rfl) dX5_text_44 ⟨Nat.le_of_ble_eq_true rfl, Nat.le_of_ble_eq_true rfl⟩ (fun u31 H locs hp32 hP hD hS => ?_)
          obtain ⟨a124, a225, a326, a427, fa128, T129, ok30⟩ := u31
          replace hp32 : rqP (itF TB nn Tt p23) a124 a225 a326 a427 fa128 T129 ok30 := hp32
          have hP : va_P D vwCl (wRo r ik ((nn : Nat) : Int) (jk (j 0) (j 1) a124 a225 a326 a427 fa128) ++ (wA cI (r 1) 100 T129 ++ (wA cI (r 2) 100 K ++ (wA cI (r 3) 100 T ++ (wA cI (r 4) 100 Y ++ (wA cI (r 5) 8 (fR F) ++ (wA cI (r 6) 120 TB ++ (wA cI (r 7) 4 (bR SB) ++ (wA cI (r 8) 4 SS ++ (wA cI (r 9) 160 SN)))))))))) H := hP
          have hD : va_D A (wRo r ik ((nn : Nat) : Int) (jk (j 0) (j 1) a124 a225 a326 a427 fa128) ++ (wA cI (r 1) 100 T129 ++ (wA cI (r 2) 100 K ++ (wA cI (r 3) 100 T ++ (wA cI (r 4) 100 Y ++ (wA cI (r 5) 8 (fR F) ++ (wA cI (r 6) 120 TB ++ (wA cI (r 7) 4 (bR SB) ++ (wA cI (r 8) 4 SS ++ (wA cI (r 9) 160 SN)))))))))) := hD
          refine W.eq (g2 := F0 m 47 ls [.int (iI (b2 (decide (ok30 = true))))]) rfl ?_
          obtain ⟨p33, hp33⟩ : ∃ z, z = (itF TB nn Tt p23).2.2 := ⟨_, rfl⟩
          have hT_p33 : T129 = (itF TB nn Tt p23).2.1 := hp32.1
          have hk_p33 : okQ ok30 (itF TB nn Tt p23) fa128 := hp32.2.2
          have hty : tyR a124 a225 a326 a427 p33 := by rw [hp33]; exact hp32.2.1
          obtain ⟨rfl, rfl, rfl, hv_p33⟩ := hty
          have hi_p33 : tkI nn p33 := by rw [hp33]; exact itF_I hi_p23
          have hT8_p33 : 0 ≤ T129 0 ∧ T129 0 ≤ 8 := by rw [hT_p33]; exact itF_0 hT8
          refine lv_istore_n (lv' := [(2, .int (iI (b2 (decide (ok30 = true))))), (0, .ref (r 0)), (1, .int (iI ((1 + t : Nat) : Int)))]) hx hb dX5_text_47 rfl hl (by decide) rfl (fun ls hl => ?_)
          refine x_iinc hx hb 2 ((1 + (t + 1) : Nat) : Int) (by omega) [(1, .int (iI ((1 + (t + 1) : Nat) : Int))), (2, .int (iI (b2 (decide (ok30 = true))))), (0, .ref (r 0))] dX5_text_48 hl rfl (by decide) rfl (fun ls hl => ?_)
          refine lv_goto (tgt := 27) hx hb dX5_text_51 (by decide) ?_
          exact ih (t + 1) (itF TB nn Tt p23) T129 p33 a427 fa128 ok30 _ _ _ (by omega) (by rw [← hr, txA_s (hok.1 c_28) (by rw [← hpx]; omega), ← hT, ← hpx, ← hp23, show ((1 + (t + 1) : Nat) : Int) = ((1 + t : Nat) : Int) + 1 by omega]) hT_p33 hp33 hi_p33 hv_p33 hk_p33 (fun q9 => by have q8 := it_f hi_p23 q9; have q7 := hB (hok.1 c_28); rw [← hpx] at q7; have q6 := (nx_I (TB := TB) hi_px).2; rw [← hp23] at q6; have q5 := hi_px.2.2.2.2.2 (by omega); omega) hT8_p33 hP hD hS (lv_sub hl [2, 0, 1] rfl)
  exact L27 119 0 (itF TB nn T p0) T112 p16 a410 fa111 ok13 _ _ _ (by omega) (by rw [← hp0]; rfl) hT_p16 hp16 hi_p16 hv_p16 hk_p16 (fun q9 => by have q8 := it_f hi_p0 q9; omega) hT8_p16 hP hD hS (lv_sub hl [2, 1, 0] rfl)
