theorem ykSX4_text : yX4_text.cls ≠ "java/lang/invoke/MethodHandle" ∧ yX4_text.cls ≠ "java/lang/invoke/VarHandle" ∧ (parseMethodDescriptor yX4_text.desc).map (fun d => d.parameters.length) = some 0 := by decide +kernel
theorem ykVX4_text : yX4_text.cls = RX4 ∧ yX4_text.cls ≠ "java/lang/invoke/MethodHandle" ∧ yX4_text.cls ≠ "java/lang/invoke/VarHandle" ∧ (parseMethodDescriptor yX4_text.desc).map (fun d => d.parameters.length) = some 0 := ⟨rfl, ykSX4_text⟩
set_option maxRecDepth 20000 in
theorem iT_X4_text_X4 : ∀ w ∈ u_ws RX4 TX4 7, w ∈ wsX4_text := by decide +kernel
set_option maxRecDepth 20000 in
theorem iT_X4_text_X3 : ∀ w ∈ u_ws RX3 TX3 6, w ∈ wsX4_text := by decide +kernel
set_option maxHeartbeats 4000000 in
set_option maxRecDepth 100000 in
theorem kX4_text {l : Launch} {D : va_G} {cI cB : ClassId} {kS vS : Nat → Nat} (x f : Nat) (q kq vq h g : Nat → Nat) (T K : Tb) (ik : Int) (SB SS SN : Nat → Int) (tn : Int) (TB F : Nat → Int) (V : Tb) (jc : Nat → Int) (B : Int) (hG : GI B T K ik SB SS SN tn TB F) (hB : B ≤ 40000)  : CtS l yX4_text wsX4_text 8 173 D [(cI, .int), (cB, .byte)] kS vS [.ref x] (wC cI cB x f q kq vq h g (T, K, ik, SB, SS, SN, tn, TB, F) V jc) (S := (Int × Gs) × Tb × (Nat → Int)) (fun u => some (.int (iI u.1.1))) (fun u => u.1 = m_text T K ik SB SS SN tn TB F) (fun u => wC cI cB x f q kq vq h g u.1.2 u.2.1 u.2.2) := by
  refine CtSI.of (cc := cX4_text) (maxL := 2) (by decide +kernel) rfl (Nat.le_of_ble_eq_true rfl) ?_
  intro pg e s m args below meth c Q A hx hb hml hts hown hP hK hD hS hX ls hl kend
  have hown : s.vm.findClass RX4 = some m.cls := hown
  have hl : lv_has ls 2 [(0, .ref x)] := hl
  obtain ⟨hI, hIK, hik, hSB, hSS, hSN, htn, hTB, hF⟩ := id hG
  have hn := Inv_n hI
  have hdy := Inv_d hI
  have hP : va_P D vwCl (wObj x f q kq vq h g ik ++ (wTab cI q T (jc 0) ++ (wTab cI kq K (jc 1) ++ (wTab cI vq V (jc 2) ++ (wSh cI h SB SS SN ++ (wTp cB g tn TB jc ++ (wA cI f 7 F))))))) s.heap := hP
  have hD : va_D A (wObj x f q kq vq h g ik ++ (wTab cI q T (jc 0) ++ (wTab cI kq K (jc 1) ++ (wTab cI vq V (jc 2) ++ (wSh cI h SB SS SN ++ (wTp cB g tn TB jc ++ (wA cI f 7 F))))))) := hD
  obtain ⟨nn, rfl⟩ : ∃ nn : Nat, tn = (nn : Int) := ⟨tn.toNat, by omega⟩
  have hP : va_P D vwCl (wObj x f q kq vq h g ik ++ (wTab cI q T (jc 0) ++ (wTab cI kq K (jc 1) ++ (wTab cI vq V (jc 2) ++ (wSh cI h SB SS SN ++ (wTp cB g ((nn : Nat) : Int) TB (jj (jc 3) (jc 4) (jc 5) (jc 6)) ++ (wA cI f 7 F))))))) s.heap := hP
  have hD : va_D A (wObj x f q kq vq h g ik ++ (wTab cI q T (jc 0) ++ (wTab cI kq K (jc 1) ++ (wTab cI vq V (jc 2) ++ (wSh cI h SB SS SN ++ (wTp cB g ((nn : Nat) : Int) TB (jj (jc 3) (jc 4) (jc 5) (jc 6)) ++ (wA cI f 7 F))))))) := hD
  have hr9 := tx_r (TB := TB) (show nn ≤ 120 by omega) 120 1 T (tnF TB nn 0) (tnF_I (Nat.zero_le _)).1 (by omega) (by omega)
  refine lv_aload_n hx hb dX4_text_0 rfl (lv_at hl 0 rfl) ?_
  refine va_get (D := D) (ci := 3) (v := .ref (vq 0)) (C := RX4) (T := TX4) (N := 7) hx hb hts (iT_X4_text_X4) hown hK hP 0 rfl rfl 2 (by decide) (hts (.fieldLink RX4 19 "WordSupper" "spare" "LWordSupper$Table;") (by decide +kernel)) (fun _ h9 => h9) rfl dX4_text_1 ?_
  refine lv_aload_n hx hb dX4_text_4 rfl (lv_at hl 0 rfl) ?_
  refine va_get (D := D) (ci := 3) (v := .ref (q 0)) (C := RX4) (T := TX4) (N := 7) hx hb hts (iT_X4_text_X4) hown hK hP 0 rfl rfl 0 (by decide) (hts (.fieldLink RX4 10 "WordSupper" "table" "LWordSupper$Table;") (by decide +kernel)) (fun _ h9 => h9) rfl dX4_text_5 ?_
  refine x_callV (As := [.ref (q 0)]) (rest := []) ⟨hx, hb, hml, hown, hts⟩ (kX2_become vq V (jc 2) q T (jc 0) ) (cwV 1 hts gX4_text_X2_become rfl rfl rfl ykVX2_become ⟨Nat.le_of_ble_eq_true rfl, Nat.le_of_ble_eq_true rfl⟩) hP hK hD hS 17 1 rfl rfl rfl [17, 18, 19, 20, 21, 22, 23, 24, 1, 2, 3, 4, 5, 6, 7, 8] rfl (by decide) (fun _ => rfl) (fun _ => wObj x f q kq vq h g ik ++ (wTab cI q T (jc 0) ++ (wTab cI kq K (jc 1) ++ (wTab cI vq T (jc 2) ++ (wSh cI h SB SS SN ++ (wTp cB g ((nn : Nat) : Int) TB (jj (jc 3) (jc 4) (jc 5) (jc 6)) ++ (wA cI f 7 F))))))) (fun _ => rfl) rfl hl.1 rfl (Nat.le_of_ble_eq_true rfl) dX4_text_8 ⟨Nat.le_of_ble_eq_true rfl, Nat.le_of_ble_eq_true rfl⟩ (fun _ H locs _ hP hD hS => ?_)
  refine W.eq (g2 := F0 m 11 ls []) rfl ?_
  refine lv_aload_n hx hb dX4_text_11 rfl (lv_at hl 0 rfl) ?_
  refine va_get (D := D) (ci := 3) (v := .ref (g 0)) (C := RX4) (T := TX4) (N := 7) hx hb hts (iT_X4_text_X4) hown hK hP 0 rfl rfl 4 (by decide) (hts (.fieldLink RX4 32 "WordSupper" "tape" "LWordSupper$Tape;") (by decide +kernel)) (fun _ h9 => h9) rfl dX4_text_12 ?_
  refine lv_aload_n hx hb dX4_text_15 rfl (lv_at hl 0 rfl) ?_
  refine va_get (D := D) (ci := 3) (v := .ref (vq 0)) (C := RX4) (T := TX4) (N := 7) hx hb hts (iT_X4_text_X4) hown hK hP 0 rfl rfl 2 (by decide) (hts (.fieldLink RX4 19 "WordSupper" "spare" "LWordSupper$Table;") (by decide +kernel)) (fun _ h9 => h9) rfl dX4_text_16 ?_
  refine x_callVS (As := [.ref (vq 0)]) (rest := []) ⟨hx, hb, hml, hown, hts⟩ (kX3_tell g ((nn : Nat) : Int) TB (jc 3) (jc 4) (jc 5) (jc 6) vq T (jc 2) nn rfl (by omega) hTB hn) (cwV 1 hts gX4_text_X3_tell rfl rfl rfl ykVX3_tell ⟨Nat.le_of_ble_eq_true rfl, Nat.le_of_ble_eq_true rfl⟩) hP hK hD hS hX 29 2 rfl rfl rfl [29, 30, 17, 18, 19, 20, 21, 22, 23, 24] rfl (by decide) (fun _ => rfl) (fun u => wObj x f q kq vq h g ik ++ (wTab cI q T (jc 0) ++ (wTab cI kq K (jc 1) ++ (wTab cI vq u.2.2.2.2 (jc 2) ++ (wSh cI h SB SS SN ++ (wTp cB g ((nn : Nat) : Int) TB (jj u.1 u.2.1 u.2.2.1 u.2.2.2.1) ++ (wA cI f 7 F))))))) (fun _ => rfl) rfl hl.1 rfl (Nat.le_of_ble_eq_true rfl) dX4_text_19 ⟨Nat.le_of_ble_eq_true rfl, Nat.le_of_ble_eq_true rfl⟩ (fun u6 H locs hp7 hP hD hS => ?_)
  obtain ⟨a11, a22, a33, a44, T15⟩ := u6
  replace hp7 : T15 = (txF TB nn 120 1 T (tnF TB nn 0)).2 := hp7
  have hP : va_P D vwCl (wObj x f q kq vq h g ik ++ (wTab cI q T (jc 0) ++ (wTab cI kq K (jc 1) ++ (wTab cI vq T15 (jc 2) ++ (wSh cI h SB SS SN ++ (wTp cB g ((nn : Nat) : Int) TB (jj a11 a22 a33 a44) ++ (wA cI f 7 F))))))) H := hP
  have hD : va_D A (wObj x f q kq vq h g ik ++ (wTab cI q T (jc 0) ++ (wTab cI kq K (jc 1) ++ (wTab cI vq T15 (jc 2) ++ (wSh cI h SB SS SN ++ (wTp cB g ((nn : Nat) : Int) TB (jj a11 a22 a33 a44) ++ (wA cI f 7 F))))))) := hD
  refine W.eq (g2 := F0 m 22 ls [.int (iI ((txF TB nn 120 1 T (tnF TB nn 0)).1))]) rfl ?_
  refine lv_istore_n (lv' := [(1, .int (iI ((txF TB nn 120 1 T (tnF TB nn 0)).1))), (0, .ref x)]) hx hb dX4_text_22 rfl hl (by decide) rfl (fun ls hl => ?_)
  refine lv_iload_n hx hb dX4_text_23 rfl (lv_at hl 0 rfl) ?_
  refine x_if_lt (tgt := 38) hx hb (by omega) dX4_text_24 (by decide) (fun c_24 => ?_) (fun c_24 => ?_)
  · refine lv_aload_n hx hb dX4_text_38 rfl (lv_at hl 1 rfl) ?_
    refine va_get (D := D) (ci := 3) (v := .ref (g 0)) (C := RX4) (T := TX4) (N := 7) hx hb hts (iT_X4_text_X4) hown hK hP 0 rfl rfl 4 (by decide) (hts (.fieldLink RX4 32 "WordSupper" "tape" "LWordSupper$Tape;") (by decide +kernel)) (fun _ h9 => h9) rfl dX4_text_39 ?_
    refine x_iconst hx hb dX4_text_42 ?_
    refine x_putI (D := D) (ty := .int) (C := RX3) (T := TX3) (N := 6) hx hb 2 hts (iT_X4_text_X3) tyX3 tyX3_ok nmX3 hown hK hP hD hS 29 rfl rfl 0 (by decide) (hts (.fieldLink RX4 199 "WordSupper$Tape" "size" "I") (by decide +kernel)) (fun _ h9 => h9) rfl (by decide +kernel) rfl rfl (Nat.le_of_ble_eq_true rfl) (wObj x f q kq vq h g ik ++ (wTab cI q T (jc 0) ++ (wTab cI kq K (jc 1) ++ (wTab cI vq T15 (jc 2) ++ (wSh cI h SB SS SN ++ (wTp cB g 0 TB (jj a11 a22 a33 a44) ++ (wA cI f 7 F))))))) (rfl) dX4_text_43 (fun H locs hP hD hS => ?_)
    refine lv_iload_n hx hb dX4_text_46 rfl (lv_at hl 0 rfl) ?_
    exact kend (((txF TB nn 120 1 T (tnF TB nn 0)).1, T, K, ik, SB, SS, SN, 0, TB, F), T15, va_up (va_up (va_up (jj a11 a22 a33 a44) 0 (jc 0)) 1 (jc 1)) 2 (jc 2)) hP hS rfl (by unfold m_text; simp only [Int.toNat_natCast]; rw [if_neg (by omega)]) dX4_text_47
  · refine lv_aload_n hx hb dX4_text_27 rfl (lv_at hl 1 rfl) ?_
    refine va_get (D := D) (ci := 3) (v := .ref (q 0)) (C := RX4) (T := TX4) (N := 7) hx hb hts (iT_X4_text_X4) hown hK hP 0 rfl rfl 0 (by decide) (hts (.fieldLink RX4 10 "WordSupper" "table" "LWordSupper$Table;") (by decide +kernel)) (fun _ h9 => h9) rfl dX4_text_28 ?_
    refine lv_aload_n hx hb dX4_text_31 rfl (lv_at hl 1 rfl) ?_
    refine va_get (D := D) (ci := 3) (v := .ref (vq 0)) (C := RX4) (T := TX4) (N := 7) hx hb hts (iT_X4_text_X4) hown hK hP 0 rfl rfl 2 (by decide) (hts (.fieldLink RX4 19 "WordSupper" "spare" "LWordSupper$Table;") (by decide +kernel)) (fun _ h9 => h9) rfl dX4_text_32 ?_
    refine x_callV (As := [.ref (vq 0)]) (rest := []) ⟨hx, hb, hml, hown, hts⟩ (kX2_become q T (jc 0) vq T15 (jc 2) ) (cwV 1 hts gX4_text_X2_become rfl rfl rfl ykVX2_become ⟨Nat.le_of_ble_eq_true rfl, Nat.le_of_ble_eq_true rfl⟩) hP hK hD hS 1 1 rfl rfl rfl [1, 2, 3, 4, 5, 6, 7, 8, 17, 18, 19, 20, 21, 22, 23, 24] rfl (by decide) (fun _ => rfl) (fun _ => wObj x f q kq vq h g ik ++ (wTab cI q T15 (jc 0) ++ (wTab cI kq K (jc 1) ++ (wTab cI vq T15 (jc 2) ++ (wSh cI h SB SS SN ++ (wTp cB g ((nn : Nat) : Int) TB (jj a11 a22 a33 a44) ++ (wA cI f 7 F))))))) (fun _ => rfl) rfl hl.1 rfl (Nat.le_of_ble_eq_true rfl) dX4_text_35 ⟨Nat.le_of_ble_eq_true rfl, Nat.le_of_ble_eq_true rfl⟩ (fun _ H locs _ hP hD hS => ?_)
    refine W.eq (g2 := F0 m 38 ls []) rfl ?_
    refine lv_aload_n hx hb dX4_text_38 rfl (lv_at hl 1 rfl) ?_
    refine va_get (D := D) (ci := 3) (v := .ref (g 0)) (C := RX4) (T := TX4) (N := 7) hx hb hts (iT_X4_text_X4) hown hK hP 0 rfl rfl 4 (by decide) (hts (.fieldLink RX4 32 "WordSupper" "tape" "LWordSupper$Tape;") (by decide +kernel)) (fun _ h9 => h9) rfl dX4_text_39 ?_
    refine x_iconst hx hb dX4_text_42 ?_
    refine x_putI (D := D) (ty := .int) (C := RX3) (T := TX3) (N := 6) hx hb 2 hts (iT_X4_text_X3) tyX3 tyX3_ok nmX3 hown hK hP hD hS 29 rfl rfl 0 (by decide) (hts (.fieldLink RX4 199 "WordSupper$Tape" "size" "I") (by decide +kernel)) (fun _ h9 => h9) rfl (by decide +kernel) rfl rfl (Nat.le_of_ble_eq_true rfl) (wObj x f q kq vq h g ik ++ (wTab cI q T15 (jc 0) ++ (wTab cI kq K (jc 1) ++ (wTab cI vq T15 (jc 2) ++ (wSh cI h SB SS SN ++ (wTp cB g 0 TB (jj a11 a22 a33 a44) ++ (wA cI f 7 F))))))) (rfl) dX4_text_43 (fun H locs hP hD hS => ?_)
    refine lv_iload_n hx hb dX4_text_46 rfl (lv_at hl 0 rfl) ?_
    exact kend (((txF TB nn 120 1 T (tnF TB nn 0)).1, T15, K, ik, SB, SS, SN, 0, TB, F), T15, va_up (va_up (va_up (jj a11 a22 a33 a44) 0 (jc 0)) 1 (jc 1)) 2 (jc 2)) hP hS rfl (by unfold m_text; simp only [Int.toNat_natCast]; rw [if_pos (by omega), hp7]) dX4_text_47
