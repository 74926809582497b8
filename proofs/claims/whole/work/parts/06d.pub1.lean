theorem ykSX4_vinegar : yX4_vinegar.cls ≠ "java/lang/invoke/MethodHandle" ∧ yX4_vinegar.cls ≠ "java/lang/invoke/VarHandle" ∧ (parseMethodDescriptor yX4_vinegar.desc).map (fun d => d.parameters.length) = some 1 := by decide +kernel
theorem ykVX4_vinegar : yX4_vinegar.cls = RX4 ∧ yX4_vinegar.cls ≠ "java/lang/invoke/MethodHandle" ∧ yX4_vinegar.cls ≠ "java/lang/invoke/VarHandle" ∧ (parseMethodDescriptor yX4_vinegar.desc).map (fun d => d.parameters.length) = some 1 := ⟨rfl, ykSX4_vinegar⟩
set_option maxRecDepth 20000 in
theorem iT_X4_vinegar_X4 : ∀ w ∈ u_ws RX4 TX4 7, w ∈ wsX4_vinegar := by decide +kernel
set_option maxRecDepth 20000 in
theorem iT_X4_vinegar_X2 : ∀ w ∈ u_ws RX2 TX2 12, w ∈ wsX4_vinegar := by decide +kernel
set_option maxHeartbeats 4000000 in
set_option maxRecDepth 100000 in
theorem kX4_vinegar {l : Launch} {D : va_G} {cI cB : ClassId} (x f : Nat) (q kq vq h g : Nat → Nat) (T K : Tb) (ik : Int) (SB SS SN : Nat → Int) (tn : Int) (TB F : Nat → Int) (V : Tb) (jc : Nat → Int) (v : Int) (B : Int) (hG : GI B T K ik SB SS SN tn TB F) (hB : B ≤ 40000) (h_v : rI v) : Ct l yX4_vinegar wsX4_vinegar 2 44 D [(cI, .int), (cB, .byte)] [.ref x, .int (iI v)] (wC cI cB x f q kq vq h g (T, K, ik, SB, SS, SN, tn, TB, F) V jc) (S := (Int × Gs) × Tb × (Nat → Int)) (fun u => some (.int (iI u.1.1))) (fun u => u.1 = m_vinegar v T K ik SB SS SN tn TB F) (fun u => wC cI cB x f q kq vq h g u.1.2 u.2.1 u.2.2) := by
  refine CtI.of (cc := cX4_vinegar) (maxL := 3) (by decide +kernel) rfl (Nat.le_of_ble_eq_true rfl) ?_
  intro pg e s m args below meth c Q A hx hb hml hts hown hP hK hD hS ls hl kend
  have hown : s.vm.findClass RX4 = some m.cls := hown
  have hl : lv_has ls 3 [(0, .ref x), (1, .int (iI v))] := hl
  obtain ⟨hI, hIK, hik, hSB, hSS, hSN, htn, hTB, hF⟩ := id hG
  have hn := Inv_n hI
  have hdy := Inv_d hI
  have hP : va_P D vwCl (wObj x f q kq vq h g ik ++ (wTab cI q T (jc 0) ++ (wTab cI kq K (jc 1) ++ (wTab cI vq V (jc 2) ++ (wSh cI h SB SS SN ++ (wTp cB g tn TB jc ++ (wA cI f 7 F))))))) s.heap := hP
  have hD : va_D A (wObj x f q kq vq h g ik ++ (wTab cI q T (jc 0) ++ (wTab cI kq K (jc 1) ++ (wTab cI vq V (jc 2) ++ (wSh cI h SB SS SN ++ (wTp cB g tn TB jc ++ (wA cI f 7 F))))))) := hD
  refine lv_iload_n hx hb dX4_vinegar_0 rfl (lv_at hl 1 rfl) ?_
  refine x_iconst hx hb dX4_vinegar_1 ?_
  refine x_bipush hx hb dX4_vinegar_2 (by decide) ?_
  refine x_callS (As := [.int (iI v), .int (iI 0), .int (iI 9)]) (rest := []) ⟨hx, hb, hml, hown, hts⟩ (kX4_isWithin v 0 9 (by omega) (by decide) (by decide)) (va_cwS 3 hts gX4_vinegar_X4_isWithin rfl rfl rfl ykSX4_isWithin ⟨Nat.le_of_ble_eq_true rfl, Nat.le_of_ble_eq_true rfl⟩) hP hK hD hS [] rfl (by decide) (fun _ => rfl) (fun _ => wObj x f q kq vq h g ik ++ (wTab cI q T (jc 0) ++ (wTab cI kq K (jc 1) ++ (wTab cI vq V (jc 2) ++ (wSh cI h SB SS SN ++ (wTp cB g tn TB jc ++ (wA cI f 7 F))))))) (fun _ => rfl) rfl hl.1 rfl (Nat.le_of_ble_eq_true rfl) dX4_vinegar_4 ⟨Nat.le_of_ble_eq_true rfl, Nat.le_of_ble_eq_true rfl⟩ (fun _ H locs _ hP hD hS => ?_)
  refine W.eq (g2 := F0 m 7 ls [.int (iI (b2 (decide (0 ≤ v ∧ v ≤ 9))))]) rfl ?_
  refine x_ifb_ne (tgt := 17) hx hb dX4_vinegar_7 (by decide) (fun c_7 => ?_) (fun c_7 => ?_)
  · refine lv_aload_n hx hb dX4_vinegar_17 rfl (lv_at hl 0 rfl) ?_
    refine va_get (D := D) (ci := 3) (v := .ref (q 0)) (C := RX4) (T := TX4) (N := 7) hx hb hts (iT_X4_vinegar_X4) hown hK hP 0 rfl rfl 0 (by decide) (hts (.fieldLink RX4 10 "WordSupper" "table" "LWordSupper$Table;") (by decide +kernel)) (fun _ h9 => h9) rfl dX4_vinegar_18 ?_
    refine va_get (D := D) (ci := 1) (v := .int (iI (T 3))) (C := RX2) (T := TX2) (N := 12) hx hb hts (iT_X4_vinegar_X2) hown hK hP 1 rfl rfl 1 (by decide) (hts (.fieldLink RX4 49 "WordSupper$Table" "vinegar" "I") (by decide +kernel)) (fun _ h9 => h9) rfl dX4_vinegar_21 ?_
    refine lv_istore_n (lv' := [(2, .int (iI (T 3))), (0, .ref x), (1, .int (iI v))]) hx hb dX4_vinegar_24 rfl hl (by decide) rfl (fun ls hl => ?_)
    refine lv_aload_n hx hb dX4_vinegar_25 rfl (lv_at hl 1 rfl) ?_
    refine va_get (D := D) (ci := 3) (v := .ref (q 0)) (C := RX4) (T := TX4) (N := 7) hx hb hts (iT_X4_vinegar_X4) hown hK hP 0 rfl rfl 0 (by decide) (hts (.fieldLink RX4 10 "WordSupper" "table" "LWordSupper$Table;") (by decide +kernel)) (fun _ h9 => h9) rfl dX4_vinegar_26 ?_
    refine lv_iload_n hx hb dX4_vinegar_29 rfl (lv_at hl 2 rfl) ?_
    refine x_putI (D := D) (ty := .int) (C := RX2) (T := TX2) (N := 12) hx hb 1 hts (iT_X4_vinegar_X2) tyX2 tyX2_ok nmX2 hown hK hP hD hS 1 rfl rfl 1 (by decide) (hts (.fieldLink RX4 49 "WordSupper$Table" "vinegar" "I") (by decide +kernel)) (fun _ h9 => h9) rfl (by decide +kernel) rfl rfl (Nat.le_of_ble_eq_true rfl) (wObj x f q kq vq h g ik ++ (wTab cI q (va_up T 3 v) (jc 0) ++ (wTab cI kq K (jc 1) ++ (wTab cI vq V (jc 2) ++ (wSh cI h SB SS SN ++ (wTp cB g tn TB jc ++ (wA cI f 7 F))))))) (by rw [← wT_vin cI q T (jc 0) v]; rfl) dX4_vinegar_30 (fun H locs hP hD hS => ?_)
    refine lv_iload_n hx hb dX4_vinegar_33 rfl (lv_at hl 0 rfl) ?_
    exact kend ((T 3, va_up T 3 v, K, ik, SB, SS, SN, tn, TB, F), V, jc) hP hS rfl (if_pos (by omega)).symm dX4_vinegar_34
  · refine lv_aload_n hx hb dX4_vinegar_10 rfl (lv_at hl 0 rfl) ?_
    refine x_ldc hx hb (-1000001) rfl hown (hts (.constant RX4 44 (-1000001)) (by decide +kernel)) dX4_vinegar_11 ?_
    refine x_callV (As := [.int (iI (-1000001))]) (rest := []) ⟨hx, hb, hml, hown, hts⟩ (kX4_finding x f q kq vq h g ik F (-1000001) 0 (by omega) (by omega)) (cwV 1 hts gX4_vinegar_X4_finding rfl rfl rfl ykVX4_finding ⟨Nat.le_of_ble_eq_true rfl, Nat.le_of_ble_eq_true rfl⟩) hP hK hD hS 0 3 rfl rfl rfl [0, 31] rfl (by decide) (fun _ => rfl) (fun _ => wObj x f q kq vq h g ik ++ (wTab cI q T (jc 0) ++ (wTab cI kq K (jc 1) ++ (wTab cI vq V (jc 2) ++ (wSh cI h SB SS SN ++ (wTp cB g tn TB jc ++ (wA cI f 7 (bmp 0 F)))))))) (fun _ => rfl) rfl hl.1 rfl (Nat.le_of_ble_eq_true rfl) dX4_vinegar_13 ⟨Nat.le_of_ble_eq_true rfl, Nat.le_of_ble_eq_true rfl⟩ (fun _ H locs _ hP hD hS => ?_)
    refine W.eq (g2 := F0 m 16 ls [.int (iI (-1000001))]) rfl ?_
    exact kend (((-1000001), T, K, ik, SB, SS, SN, tn, TB, (bmp 0 F)), V, jc) hP hS rfl (if_neg (by omega)).symm dX4_vinegar_16
theorem ykSX4_list : yX4_list.cls ≠ "java/lang/invoke/MethodHandle" ∧ yX4_list.cls ≠ "java/lang/invoke/VarHandle" ∧ (parseMethodDescriptor yX4_list.desc).map (fun d => d.parameters.length) = some 2 := by decide +kernel
theorem ykVX4_list : yX4_list.cls = RX4 ∧ yX4_list.cls ≠ "java/lang/invoke/MethodHandle" ∧ yX4_list.cls ≠ "java/lang/invoke/VarHandle" ∧ (parseMethodDescriptor yX4_list.desc).map (fun d => d.parameters.length) = some 2 := ⟨rfl, ykSX4_list⟩
set_option maxRecDepth 20000 in
theorem iT_X4_list_X4 : ∀ w ∈ u_ws RX4 TX4 7, w ∈ wsX4_list := by decide +kernel
set_option maxRecDepth 20000 in
theorem iT_X4_list_X2 : ∀ w ∈ u_ws RX2 TX2 12, w ∈ wsX4_list := by decide +kernel
set_option maxHeartbeats 4000000 in
set_option maxRecDepth 100000 in
theorem kX4_list {l : Launch} {D : va_G} {cI cB : ClassId} (x f : Nat) (q kq vq h g : Nat → Nat) (T K : Tb) (ik : Int) (SB SS SN : Nat → Int) (tn : Int) (TB F : Nat → Int) (V : Tb) (jc : Nat → Int) (t v : Int) (B : Int) (hG : GI B T K ik SB SS SN tn TB F) (hB : B ≤ 40000) (h_t : rI t) (h_v : rI v) : Ct l yX4_list wsX4_list 2 44 D [(cI, .int), (cB, .byte)] [.ref x, .int (iI t), .int (iI v)] (wC cI cB x f q kq vq h g (T, K, ik, SB, SS, SN, tn, TB, F) V jc) (S := (Int × Gs) × Tb × (Nat → Int)) (fun u => some (.int (iI u.1.1))) (fun u => u.1 = m_list t v T K ik SB SS SN tn TB F) (fun u => wC cI cB x f q kq vq h g u.1.2 u.2.1 u.2.2) := by
  refine CtI.of (cc := cX4_list) (maxL := 4) (by decide +kernel) rfl (Nat.le_of_ble_eq_true rfl) ?_
  intro pg e s m args below meth c Q A hx hb hml hts hown hP hK hD hS ls hl kend
  have hown : s.vm.findClass RX4 = some m.cls := hown
  have hl : lv_has ls 4 [(0, .ref x), (1, .int (iI t)), (2, .int (iI v))] := hl
  obtain ⟨hI, hIK, hik, hSB, hSS, hSN, htn, hTB, hF⟩ := id hG
  have hn := Inv_n hI
  have hdy := Inv_d hI
  have hP : va_P D vwCl (wObj x f q kq vq h g ik ++ (wTab cI q T (jc 0) ++ (wTab cI kq K (jc 1) ++ (wTab cI vq V (jc 2) ++ (wSh cI h SB SS SN ++ (wTp cB g tn TB jc ++ (wA cI f 7 F))))))) s.heap := hP
  have hD : va_D A (wObj x f q kq vq h g ik ++ (wTab cI q T (jc 0) ++ (wTab cI kq K (jc 1) ++ (wTab cI vq V (jc 2) ++ (wSh cI h SB SS SN ++ (wTp cB g tn TB jc ++ (wA cI f 7 F))))))) := hD
  refine lv_iload_n hx hb dX4_list_0 rfl (lv_at hl 1 rfl) ?_
  refine x_callS (As := [.int (iI t)]) (rest := []) ⟨hx, hb, hml, hown, hts⟩ (kX4_isTaste t (by omega)) (va_cwS 1 hts gX4_list_X4_isTaste rfl rfl rfl ykSX4_isTaste ⟨Nat.le_of_ble_eq_true rfl, Nat.le_of_ble_eq_true rfl⟩) hP hK hD hS [] rfl (by decide) (fun _ => rfl) (fun _ => wObj x f q kq vq h g ik ++ (wTab cI q T (jc 0) ++ (wTab cI kq K (jc 1) ++ (wTab cI vq V (jc 2) ++ (wSh cI h SB SS SN ++ (wTp cB g tn TB jc ++ (wA cI f 7 F))))))) (fun _ => rfl) rfl hl.1 rfl (Nat.le_of_ble_eq_true rfl) dX4_list_1 ⟨Nat.le_of_ble_eq_true rfl, Nat.le_of_ble_eq_true rfl⟩ (fun _ H locs _ hP hD hS => ?_)
  refine W.eq (g2 := F0 m 4 ls [.int (iI (b2 (decide (0 ≤ t ∧ t ≤ 5))))]) rfl ?_
  refine x_ifb_eq (tgt := 17) hx hb dX4_list_4 (by decide) (fun c_4 => ?_) (fun c_4 => ?_)
  · refine lv_aload_n hx hb dX4_list_17 rfl (lv_at hl 0 rfl) ?_
    refine x_ldc hx hb (-1000001) rfl hown (hts (.constant RX4 44 (-1000001)) (by decide +kernel)) dX4_list_18 ?_
    refine x_callV (As := [.int (iI (-1000001))]) (rest := []) ⟨hx, hb, hml, hown, hts⟩ (kX4_finding x f q kq vq h g ik F (-1000001) 0 (by omega) (by omega)) (cwV 1 hts gX4_list_X4_finding rfl rfl rfl ykVX4_finding ⟨Nat.le_of_ble_eq_true rfl, Nat.le_of_ble_eq_true rfl⟩) hP hK hD hS 0 3 rfl rfl rfl [0, 31] rfl (by decide) (fun _ => rfl) (fun _ => wObj x f q kq vq h g ik ++ (wTab cI q T (jc 0) ++ (wTab cI kq K (jc 1) ++ (wTab cI vq V (jc 2) ++ (wSh cI h SB SS SN ++ (wTp cB g tn TB jc ++ (wA cI f 7 (bmp 0 F)))))))) (fun _ => rfl) rfl hl.1 rfl (Nat.le_of_ble_eq_true rfl) dX4_list_20 ⟨Nat.le_of_ble_eq_true rfl, Nat.le_of_ble_eq_true rfl⟩ (fun _ H locs _ hP hD hS => ?_)
    refine W.eq (g2 := F0 m 23 ls [.int (iI (-1000001))]) rfl ?_
    exact kend (((-1000001), T, K, ik, SB, SS, SN, tn, TB, (bmp 0 F)), V, jc) hP hS rfl (if_neg (by omega)).symm dX4_list_23
  · refine lv_iload_n hx hb dX4_list_7 rfl (lv_at hl 2 rfl) ?_
    refine x_iconst hx hb dX4_list_8 ?_
    refine x_bipush hx hb dX4_list_9 (by decide) ?_
    refine x_callS (As := [.int (iI v), .int (iI 0), .int (iI 20)]) (rest := []) ⟨hx, hb, hml, hown, hts⟩ (kX4_isWithin v 0 20 (by omega) (by decide) (by decide)) (va_cwS 3 hts gX4_list_X4_isWithin rfl rfl rfl ykSX4_isWithin ⟨Nat.le_of_ble_eq_true rfl, Nat.le_of_ble_eq_true rfl⟩) hP hK hD hS [] rfl (by decide) (fun _ => rfl) (fun _ => wObj x f q kq vq h g ik ++ (wTab cI q T (jc 0) ++ (wTab cI kq K (jc 1) ++ (wTab cI vq V (jc 2) ++ (wSh cI h SB SS SN ++ (wTp cB g tn TB jc ++ (wA cI f 7 F))))))) (fun _ => rfl) rfl hl.1 rfl (Nat.le_of_ble_eq_true rfl) dX4_list_11 ⟨Nat.le_of_ble_eq_true rfl, Nat.le_of_ble_eq_true rfl⟩ (fun _ H locs _ hP hD hS => ?_)
    refine W.eq (g2 := F0 m 14 ls [.int (iI (b2 (decide (0 ≤ v ∧ v ≤ 20))))]) rfl ?_
    refine x_ifb_ne (tgt := 24) hx hb dX4_list_14 (by decide) (fun c_14 => ?_) (fun c_14 => ?_)
    · obtain ⟨t0, rfl⟩ : ∃ t0 : Nat, t = (t0 : Int) := ⟨t.toNat, by omega⟩
      refine lv_aload_n hx hb dX4_list_24 rfl (lv_at hl 0 rfl) ?_
      refine va_get (D := D) (ci := 3) (v := .ref (q 0)) (C := RX4) (T := TX4) (N := 7) hx hb hts (iT_X4_list_X4) hown hK hP 0 rfl rfl 0 (by decide) (hts (.fieldLink RX4 10 "WordSupper" "table" "LWordSupper$Table;") (by decide +kernel)) (fun _ h9 => h9) rfl dX4_list_25 ?_
      refine va_get (D := D) (ci := 1) (v := .ref (q 1)) (C := RX2) (T := TX2) (N := 12) hx hb hts (iT_X4_list_X2) hown hK hP 1 rfl rfl 5 (by decide) (hts (.fieldLink RX4 57 "WordSupper$Table" "listed" "[I") (by decide +kernel)) (fun _ h9 => h9) rfl dX4_list_28 ?_
      refine lv_iload_n hx hb dX4_list_31 rfl (lv_at hl 1 rfl) ?_
      refine x_iald hx hb hK hP 2 0 rfl rfl t0 rfl (by omega) (by decide) (T (4 + t0)) (gd_at _ (by omega)) dX4_list_32 ?_
      refine lv_istore_n (lv' := [(3, .int (iI (T (4 + t0)))), (0, .ref x), (1, .int (iI ((t0 : Nat) : Int))), (2, .int (iI v))]) hx hb dX4_list_33 rfl hl (by decide) rfl (fun ls hl => ?_)
      refine lv_aload_n hx hb dX4_list_34 rfl (lv_at hl 1 rfl) ?_
      refine va_get (D := D) (ci := 3) (v := .ref (q 0)) (C := RX4) (T := TX4) (N := 7) hx hb hts (iT_X4_list_X4) hown hK hP 0 rfl rfl 0 (by decide) (hts (.fieldLink RX4 10 "WordSupper" "table" "LWordSupper$Table;") (by decide +kernel)) (fun _ h9 => h9) rfl dX4_list_35 ?_
      refine va_get (D := D) (ci := 1) (v := .ref (q 1)) (C := RX2) (T := TX2) (N := 12) hx hb hts (iT_X4_list_X2) hown hK hP 1 rfl rfl 5 (by decide) (hts (.fieldLink RX4 57 "WordSupper$Table" "listed" "[I") (by decide +kernel)) (fun _ h9 => h9) rfl dX4_list_38 ?_
      refine lv_iload_n hx hb dX4_list_41 rfl (lv_at hl 2 rfl) ?_
      refine lv_iload_n hx hb dX4_list_42 rfl (lv_at hl 3 rfl) ?_
      refine x_iast hx hb hK hP hD hS 2 0 rfl rfl t0 rfl (by omega) (by decide) (wObj x f q kq vq h g ik ++ (wTab cI q (va_up T (4 + t0) v) (jc 0) ++ (wTab cI kq K (jc 1) ++ (wTab cI vq V (jc 2) ++ (wSh cI h SB SS SN ++ (wTp cB g tn TB jc ++ (wA cI f 7 F))))))) (by rw [← wT_listed cI q T (jc 0) v t0 (by omega)]; rfl) dX4_list_43 (fun H locs hP hD hS => ?_)
      refine lv_iload_n hx hb dX4_list_44 rfl (lv_at hl 0 rfl) ?_
      exact kend ((T (4 + t0), va_up T (4 + t0) v, K, ik, SB, SS, SN, tn, TB, F), V, jc) hP hS rfl (if_pos (by omega)).symm dX4_list_45
    · refine lv_aload_n hx hb dX4_list_17 rfl (lv_at hl 0 rfl) ?_
      refine x_ldc hx hb (-1000001) rfl hown (hts (.constant RX4 44 (-1000001)) (by decide +kernel)) dX4_list_18 ?_
      refine x_callV (As := [.int (iI (-1000001))]) (rest := []) ⟨hx, hb, hml, hown, hts⟩ (kX4_finding x f q kq vq h g ik F (-1000001) 0 (by omega) (by omega)) (cwV 1 hts gX4_list_X4_finding rfl rfl rfl ykVX4_finding ⟨Nat.le_of_ble_eq_true rfl, Nat.le_of_ble_eq_true rfl⟩) hP hK hD hS 0 3 rfl rfl rfl [0, 31] rfl (by decide) (fun _ => rfl) (fun _ => wObj x f q kq vq h g ik ++ (wTab cI q T (jc 0) ++ (wTab cI kq K (jc 1) ++ (wTab cI vq V (jc 2) ++ (wSh cI h SB SS SN ++ (wTp cB g tn TB jc ++ (wA cI f 7 (bmp 0 F)))))))) (fun _ => rfl) rfl hl.1 rfl (Nat.le_of_ble_eq_true rfl) dX4_list_20 ⟨Nat.le_of_ble_eq_true rfl, Nat.le_of_ble_eq_true rfl⟩ (fun _ H locs _ hP hD hS => ?_)
      refine W.eq (g2 := F0 m 23 ls [.int (iI (-1000001))]) rfl ?_
      exact kend (((-1000001), T, K, ik, SB, SS, SN, tn, TB, (bmp 0 F)), V, jc) hP hS rfl (if_neg (by omega)).symm dX4_list_23
theorem ykSX4_listed : yX4_listed.cls ≠ "java/lang/invoke/MethodHandle" ∧ yX4_listed.cls ≠ "java/lang/invoke/VarHandle" ∧ (parseMethodDescriptor yX4_listed.desc).map (fun d => d.parameters.length) = some 1 := by decide +kernel
theorem ykVX4_listed : yX4_listed.cls = RX4 ∧ yX4_listed.cls ≠ "java/lang/invoke/MethodHandle" ∧ yX4_listed.cls ≠ "java/lang/invoke/VarHandle" ∧ (parseMethodDescriptor yX4_listed.desc).map (fun d => d.parameters.length) = some 1 := ⟨rfl, ykSX4_listed⟩
set_option maxRecDepth 20000 in
theorem iT_X4_listed_X4 : ∀ w ∈ u_ws RX4 TX4 7, w ∈ wsX4_listed := by decide +kernel
set_option maxRecDepth 20000 in
theorem iT_X4_listed_X2 : ∀ w ∈ u_ws RX2 TX2 12, w ∈ wsX4_listed := by decide +kernel
set_option maxHeartbeats 4000000 in
set_option maxRecDepth 100000 in
theorem kX4_listed {l : Launch} {D : va_G} {cI cB : ClassId} (x f : Nat) (q kq vq h g : Nat → Nat) (T K : Tb) (ik : Int) (SB SS SN : Nat → Int) (tn : Int) (TB F : Nat → Int) (V : Tb) (jc : Nat → Int) (t : Int) (B : Int) (hG : GI B T K ik SB SS SN tn TB F) (hB : B ≤ 40000) (h_t : rI t) : Ct l yX4_listed wsX4_listed 2 44 D [(cI, .int), (cB, .byte)] [.ref x, .int (iI t)] (wC cI cB x f q kq vq h g (T, K, ik, SB, SS, SN, tn, TB, F) V jc) (S := (Int × Gs) × Tb × (Nat → Int)) (fun u => some (.int (iI u.1.1))) (fun u => u.1 = m_listed t T K ik SB SS SN tn TB F) (fun u => wC cI cB x f q kq vq h g u.1.2 u.2.1 u.2.2) := by
  refine CtI.of (cc := cX4_listed) (maxL := 2) (by decide +kernel) rfl (Nat.le_of_ble_eq_true rfl) ?_
  intro pg e s m args below meth c Q A hx hb hml hts hown hP hK hD hS ls hl kend
  have hown : s.vm.findClass RX4 = some m.cls := hown
  have hl : lv_has ls 2 [(0, .ref x), (1, .int (iI t))] := hl
  obtain ⟨hI, hIK, hik, hSB, hSS, hSN, htn, hTB, hF⟩ := id hG
  have hn := Inv_n hI
  have hdy := Inv_d hI
  have hP : va_P D vwCl (wObj x f q kq vq h g ik ++ (wTab cI q T (jc 0) ++ (wTab cI kq K (jc 1) ++ (wTab cI vq V (jc 2) ++ (wSh cI h SB SS SN ++ (wTp cB g tn TB jc ++ (wA cI f 7 F))))))) s.heap := hP
  have hD : va_D A (wObj x f q kq vq h g ik ++ (wTab cI q T (jc 0) ++ (wTab cI kq K (jc 1) ++ (wTab cI vq V (jc 2) ++ (wSh cI h SB SS SN ++ (wTp cB g tn TB jc ++ (wA cI f 7 F))))))) := hD
  refine lv_iload_n hx hb dX4_listed_0 rfl (lv_at hl 1 rfl) ?_
  refine x_callS (As := [.int (iI t)]) (rest := []) ⟨hx, hb, hml, hown, hts⟩ (kX4_isTaste t (by omega)) (va_cwS 1 hts gX4_listed_X4_isTaste rfl rfl rfl ykSX4_isTaste ⟨Nat.le_of_ble_eq_true rfl, Nat.le_of_ble_eq_true rfl⟩) hP hK hD hS [] rfl (by decide) (fun _ => rfl) (fun _ => wObj x f q kq vq h g ik ++ (wTab cI q T (jc 0) ++ (wTab cI kq K (jc 1) ++ (wTab cI vq V (jc 2) ++ (wSh cI h SB SS SN ++ (wTp cB g tn TB jc ++ (wA cI f 7 F))))))) (fun _ => rfl) rfl hl.1 rfl (Nat.le_of_ble_eq_true rfl) dX4_listed_1 ⟨Nat.le_of_ble_eq_true rfl, Nat.le_of_ble_eq_true rfl⟩ (fun _ H locs _ hP hD hS => ?_)
  refine W.eq (g2 := F0 m 4 ls [.int (iI (b2 (decide (0 ≤ t ∧ t ≤ 5))))]) rfl ?_
  refine x_ifb_ne (tgt := 14) hx hb dX4_listed_4 (by decide) (fun c_4 => ?_) (fun c_4 => ?_)
  · obtain ⟨t0, rfl⟩ : ∃ t0 : Nat, t = (t0 : Int) := ⟨t.toNat, by omega⟩
    refine lv_aload_n hx hb dX4_listed_14 rfl (lv_at hl 0 rfl) ?_
    refine va_get (D := D) (ci := 3) (v := .ref (q 0)) (C := RX4) (T := TX4) (N := 7) hx hb hts (iT_X4_listed_X4) hown hK hP 0 rfl rfl 0 (by decide) (hts (.fieldLink RX4 10 "WordSupper" "table" "LWordSupper$Table;") (by decide +kernel)) (fun _ h9 => h9) rfl dX4_listed_15 ?_
    refine va_get (D := D) (ci := 1) (v := .ref (q 1)) (C := RX2) (T := TX2) (N := 12) hx hb hts (iT_X4_listed_X2) hown hK hP 1 rfl rfl 5 (by decide) (hts (.fieldLink RX4 57 "WordSupper$Table" "listed" "[I") (by decide +kernel)) (fun _ h9 => h9) rfl dX4_listed_18 ?_
    refine lv_iload_n hx hb dX4_listed_21 rfl (lv_at hl 1 rfl) ?_
    refine x_iald hx hb hK hP 2 0 rfl rfl t0 rfl (by omega) (by decide) (T (4 + t0)) (gd_at _ (by omega)) dX4_listed_22 ?_
    exact kend ((T (4 + t0), T, K, ik, SB, SS, SN, tn, TB, F), V, jc) hP hS rfl (if_pos (by omega)).symm dX4_listed_23
  · refine lv_aload_n hx hb dX4_listed_7 rfl (lv_at hl 0 rfl) ?_
    refine x_ldc hx hb (-1000001) rfl hown (hts (.constant RX4 44 (-1000001)) (by decide +kernel)) dX4_listed_8 ?_
    refine x_callV (As := [.int (iI (-1000001))]) (rest := []) ⟨hx, hb, hml, hown, hts⟩ (kX4_finding x f q kq vq h g ik F (-1000001) 0 (by omega) (by omega)) (cwV 1 hts gX4_listed_X4_finding rfl rfl rfl ykVX4_finding ⟨Nat.le_of_ble_eq_true rfl, Nat.le_of_ble_eq_true rfl⟩) hP hK hD hS 0 3 rfl rfl rfl [0, 31] rfl (by decide) (fun _ => rfl) (fun _ => wObj x f q kq vq h g ik ++ (wTab cI q T (jc 0) ++ (wTab cI kq K (jc 1) ++ (wTab cI vq V (jc 2) ++ (wSh cI h SB SS SN ++ (wTp cB g tn TB jc ++ (wA cI f 7 (bmp 0 F)))))))) (fun _ => rfl) rfl hl.1 rfl (Nat.le_of_ble_eq_true rfl) dX4_listed_10 ⟨Nat.le_of_ble_eq_true rfl, Nat.le_of_ble_eq_true rfl⟩ (fun _ H locs _ hP hD hS => ?_)
    refine W.eq (g2 := F0 m 13 ls [.int (iI (-1000001))]) rfl ?_
    exact kend (((-1000001), T, K, ik, SB, SS, SN, tn, TB, (bmp 0 F)), V, jc) hP hS rfl (if_neg (by omega)).symm dX4_listed_13
theorem ykSX4_speaker : yX4_speaker.cls ≠ "java/lang/invoke/MethodHandle" ∧ yX4_speaker.cls ≠ "java/lang/invoke/VarHandle" ∧ (parseMethodDescriptor yX4_speaker.desc).map (fun d => d.parameters.length) = some 1 := by decide +kernel
theorem ykVX4_speaker : yX4_speaker.cls = RX4 ∧ yX4_speaker.cls ≠ "java/lang/invoke/MethodHandle" ∧ yX4_speaker.cls ≠ "java/lang/invoke/VarHandle" ∧ (parseMethodDescriptor yX4_speaker.desc).map (fun d => d.parameters.length) = some 1 := ⟨rfl, ykSX4_speaker⟩
set_option maxRecDepth 20000 in
theorem iT_X4_speaker_X4 : ∀ w ∈ u_ws RX4 TX4 7, w ∈ wsX4_speaker := by decide +kernel
set_option maxHeartbeats 4000000 in
set_option maxRecDepth 100000 in
theorem kX4_speaker {l : Launch} {D : va_G} {cI cB : ClassId} (x f : Nat) (q kq vq h g : Nat → Nat) (T K : Tb) (ik : Int) (SB SS SN : Nat → Int) (tn : Int) (TB F : Nat → Int) (V : Tb) (jc : Nat → Int) (kd : Int) (B : Int) (hG : GI B T K ik SB SS SN tn TB F) (hB : B ≤ 40000) (h_kd : rI kd) : Ct l yX4_speaker wsX4_speaker 2 44 D [(cI, .int), (cB, .byte)] [.ref x, .int (iI kd)] (wC cI cB x f q kq vq h g (T, K, ik, SB, SS, SN, tn, TB, F) V jc) (S := (Int × Gs) × Tb × (Nat → Int)) (fun u => some (.int (iI u.1.1))) (fun u => u.1 = m_speaker kd T K ik SB SS SN tn TB F) (fun u => wC cI cB x f q kq vq h g u.1.2 u.2.1 u.2.2) := by
  refine CtI.of (cc := cX4_speaker) (maxL := 2) (by decide +kernel) rfl (Nat.le_of_ble_eq_true rfl) ?_
  intro pg e s m args below meth c Q A hx hb hml hts hown hP hK hD hS ls hl kend
  have hown : s.vm.findClass RX4 = some m.cls := hown
  have hl : lv_has ls 2 [(0, .ref x), (1, .int (iI kd))] := hl
  obtain ⟨hI, hIK, hik, hSB, hSS, hSN, htn, hTB, hF⟩ := id hG
  have hn := Inv_n hI
  have hdy := Inv_d hI
  have hP : va_P D vwCl (wObj x f q kq vq h g ik ++ (wTab cI q T (jc 0) ++ (wTab cI kq K (jc 1) ++ (wTab cI vq V (jc 2) ++ (wSh cI h SB SS SN ++ (wTp cB g tn TB jc ++ (wA cI f 7 F))))))) s.heap := hP
  have hD : va_D A (wObj x f q kq vq h g ik ++ (wTab cI q T (jc 0) ++ (wTab cI kq K (jc 1) ++ (wTab cI vq V (jc 2) ++ (wSh cI h SB SS SN ++ (wTp cB g tn TB jc ++ (wA cI f 7 F))))))) := hD
  refine lv_iload_n hx hb dX4_speaker_0 rfl (lv_at hl 1 rfl) ?_
  refine x_callS (As := [.int (iI kd)]) (rest := []) ⟨hx, hb, hml, hown, hts⟩ (kX4_isKind kd (by omega)) (va_cwS 1 hts gX4_speaker_X4_isKind rfl rfl rfl ykSX4_isKind ⟨Nat.le_of_ble_eq_true rfl, Nat.le_of_ble_eq_true rfl⟩) hP hK hD hS [] rfl (by decide) (fun _ => rfl) (fun _ => wObj x f q kq vq h g ik ++ (wTab cI q T (jc 0) ++ (wTab cI kq K (jc 1) ++ (wTab cI vq V (jc 2) ++ (wSh cI h SB SS SN ++ (wTp cB g tn TB jc ++ (wA cI f 7 F))))))) (fun _ => rfl) rfl hl.1 rfl (Nat.le_of_ble_eq_true rfl) dX4_speaker_1 ⟨Nat.le_of_ble_eq_true rfl, Nat.le_of_ble_eq_true rfl⟩ (fun _ H locs _ hP hD hS => ?_)
  refine W.eq (g2 := F0 m 4 ls [.int (iI (b2 (decide (0 ≤ kd ∧ kd ≤ 6))))]) rfl ?_
  refine x_ifb_ne (tgt := 14) hx hb dX4_speaker_4 (by decide) (fun c_4 => ?_) (fun c_4 => ?_)
  · refine lv_aload_n hx hb dX4_speaker_14 rfl (lv_at hl 0 rfl) ?_
    refine va_get (D := D) (ci := 3) (v := .ref (q 0)) (C := RX4) (T := TX4) (N := 7) hx hb hts (iT_X4_speaker_X4) hown hK hP 0 rfl rfl 0 (by decide) (hts (.fieldLink RX4 10 "WordSupper" "table" "LWordSupper$Table;") (by decide +kernel)) (fun _ h9 => h9) rfl dX4_speaker_15 ?_
    refine x_callV (As := []) (rest := []) ⟨hx, hb, hml, hown, hts⟩ (kX2_isFull q T (jc 0) (by omega)) (cwV 0 hts gX4_speaker_X2_isFull rfl rfl rfl ykVX2_isFull ⟨Nat.le_of_ble_eq_true rfl, Nat.le_of_ble_eq_true rfl⟩) hP hK hD hS 1 1 rfl rfl rfl [1, 2, 3, 4, 5, 6, 7, 8] rfl (by decide) (fun _ => rfl) (fun _ => wObj x f q kq vq h g ik ++ (wTab cI q T (jc 0) ++ (wTab cI kq K (jc 1) ++ (wTab cI vq V (jc 2) ++ (wSh cI h SB SS SN ++ (wTp cB g tn TB jc ++ (wA cI f 7 F))))))) (fun _ => rfl) rfl hl.1 rfl (Nat.le_of_ble_eq_true rfl) dX4_speaker_18 ⟨Nat.le_of_ble_eq_true rfl, Nat.le_of_ble_eq_true rfl⟩ (fun _ H locs _ hP hD hS => ?_)
    refine W.eq (g2 := F0 m 21 ls [.int (iI (b2 (decide (8 ≤ T 0))))]) rfl ?_
    refine x_ifb_eq (tgt := 31) hx hb dX4_speaker_21 (by decide) (fun c_21 => ?_) (fun c_21 => ?_)
    · refine lv_aload_n hx hb dX4_speaker_31 rfl (lv_at hl 0 rfl) ?_
      refine va_get (D := D) (ci := 3) (v := .ref (q 0)) (C := RX4) (T := TX4) (N := 7) hx hb hts (iT_X4_speaker_X4) hown hK hP 0 rfl rfl 0 (by decide) (hts (.fieldLink RX4 10 "WordSupper" "table" "LWordSupper$Table;") (by decide +kernel)) (fun _ h9 => h9) rfl dX4_speaker_32 ?_
      refine lv_iload_n hx hb dX4_speaker_35 rfl (lv_at hl 1 rfl) ?_
      refine x_callV (As := [.int (iI kd)]) (rest := []) ⟨hx, hb, hml, hown, hts⟩ (kX2_seat q T (jc 0) kd (T 0).toNat (by omega) (by omega) (by omega)) (cwV 1 hts gX4_speaker_X2_seat rfl rfl rfl ykVX2_seat ⟨Nat.le_of_ble_eq_true rfl, Nat.le_of_ble_eq_true rfl⟩) hP hK hD hS 1 1 rfl rfl rfl [1, 2, 3, 4, 5, 6, 7, 8] rfl (by decide) (fun _ => rfl) (fun u => wObj x f q kq vq h g ik ++ (wTab cI q u (jc 0) ++ (wTab cI kq K (jc 1) ++ (wTab cI vq V (jc 2) ++ (wSh cI h SB SS SN ++ (wTp cB g tn TB jc ++ (wA cI f 7 F))))))) (fun _ => rfl) rfl hl.1 rfl (Nat.le_of_ble_eq_true rfl) dX4_speaker_36 ⟨Nat.le_of_ble_eq_true rfl, Nat.le_of_ble_eq_true rfl⟩ (fun u2 H locs hp3 hP hD hS => ?_)
      obtain ⟨T11, rfl⟩ : ∃ z, z = u2 := ⟨_, rfl⟩
      replace hp3 : T11 = stF kd (T 0).toNat T := hp3
      have hP : va_P D vwCl (wObj x f q kq vq h g ik ++ (wTab cI q T11 (jc 0) ++ (wTab cI kq K (jc 1) ++ (wTab cI vq V (jc 2) ++ (wSh cI h SB SS SN ++ (wTp cB g tn TB jc ++ (wA cI f 7 F))))))) H := hP
      have hD : va_D A (wObj x f q kq vq h g ik ++ (wTab cI q T11 (jc 0) ++ (wTab cI kq K (jc 1) ++ (wTab cI vq V (jc 2) ++ (wSh cI h SB SS SN ++ (wTp cB g tn TB jc ++ (wA cI f 7 F))))))) := hD
      refine W.eq (g2 := F0 m 39 ls [.int (iI (((T 0).toNat : Nat) : Int))]) rfl ?_
      exact kend (((((T 0).toNat : Nat) : Int), T11, K, ik, SB, SS, SN, tn, TB, F), V, jc) hP hS rfl (by rw [hp3]; unfold m_speaker; rw [if_neg (by omega), if_neg (by omega), show (((T 0).toNat : Nat) : Int) = T 0 by omega]) dX4_speaker_39
    · refine lv_aload_n hx hb dX4_speaker_24 rfl (lv_at hl 0 rfl) ?_
      refine x_ldc hx hb (-1000002) rfl hown (hts (.constant RX4 67 (-1000002)) (by decide +kernel)) dX4_speaker_25 ?_
      refine x_callV (As := [.int (iI (-1000002))]) (rest := []) ⟨hx, hb, hml, hown, hts⟩ (kX4_finding x f q kq vq h g ik F (-1000002) 1 (by omega) (by omega)) (cwV 1 hts gX4_speaker_X4_finding rfl rfl rfl ykVX4_finding ⟨Nat.le_of_ble_eq_true rfl, Nat.le_of_ble_eq_true rfl⟩) hP hK hD hS 0 3 rfl rfl rfl [0, 31] rfl (by decide) (fun _ => rfl) (fun _ => wObj x f q kq vq h g ik ++ (wTab cI q T (jc 0) ++ (wTab cI kq K (jc 1) ++ (wTab cI vq V (jc 2) ++ (wSh cI h SB SS SN ++ (wTp cB g tn TB jc ++ (wA cI f 7 (bmp 1 F)))))))) (fun _ => rfl) rfl hl.1 rfl (Nat.le_of_ble_eq_true rfl) dX4_speaker_27 ⟨Nat.le_of_ble_eq_true rfl, Nat.le_of_ble_eq_true rfl⟩ (fun _ H locs _ hP hD hS => ?_)
      refine W.eq (g2 := F0 m 30 ls [.int (iI (-1000002))]) rfl ?_
      exact kend (((-1000002), T, K, ik, SB, SS, SN, tn, TB, (bmp 1 F)), V, jc) hP hS rfl (((if_neg (by omega)).trans (if_pos (by omega)))).symm dX4_speaker_30
  · refine lv_aload_n hx hb dX4_speaker_7 rfl (lv_at hl 0 rfl) ?_
    refine x_ldc hx hb (-1000001) rfl hown (hts (.constant RX4 44 (-1000001)) (by decide +kernel)) dX4_speaker_8 ?_
    refine x_callV (As := [.int (iI (-1000001))]) (rest := []) ⟨hx, hb, hml, hown, hts⟩ (kX4_finding x f q kq vq h g ik F (-1000001) 0 (by omega) (by omega)) (cwV 1 hts gX4_speaker_X4_finding rfl rfl rfl ykVX4_finding ⟨Nat.le_of_ble_eq_true rfl, Nat.le_of_ble_eq_true rfl⟩) hP hK hD hS 0 3 rfl rfl rfl [0, 31] rfl (by decide) (fun _ => rfl) (fun _ => wObj x f q kq vq h g ik ++ (wTab cI q T (jc 0) ++ (wTab cI kq K (jc 1) ++ (wTab cI vq V (jc 2) ++ (wSh cI h SB SS SN ++ (wTp cB g tn TB jc ++ (wA cI f 7 (bmp 0 F)))))))) (fun _ => rfl) rfl hl.1 rfl (Nat.le_of_ble_eq_true rfl) dX4_speaker_10 ⟨Nat.le_of_ble_eq_true rfl, Nat.le_of_ble_eq_true rfl⟩ (fun _ H locs _ hP hD hS => ?_)
    refine W.eq (g2 := F0 m 13 ls [.int (iI (-1000001))]) rfl ?_
    exact kend (((-1000001), T, K, ik, SB, SS, SN, tn, TB, (bmp 0 F)), V, jc) hP hS rfl ((if_pos (by omega))).symm dX4_speaker_13
theorem ykSX4_of : yX4_of.cls ≠ "java/lang/invoke/MethodHandle" ∧ yX4_of.cls ≠ "java/lang/invoke/VarHandle" ∧ (parseMethodDescriptor yX4_of.desc).map (fun d => d.parameters.length) = some 2 := by decide +kernel
theorem ykVX4_of : yX4_of.cls = RX4 ∧ yX4_of.cls ≠ "java/lang/invoke/MethodHandle" ∧ yX4_of.cls ≠ "java/lang/invoke/VarHandle" ∧ (parseMethodDescriptor yX4_of.desc).map (fun d => d.parameters.length) = some 2 := ⟨rfl, ykSX4_of⟩
set_option maxRecDepth 20000 in
theorem iT_X4_of_X4 : ∀ w ∈ u_ws RX4 TX4 7, w ∈ wsX4_of := by decide +kernel
set_option maxHeartbeats 4000000 in
set_option maxRecDepth 100000 in
theorem kX4_of {l : Launch} {D : va_G} {cI cB : ClassId} (x f : Nat) (q kq vq h g : Nat → Nat) (T K : Tb) (ik : Int) (SB SS SN : Nat → Int) (tn : Int) (TB F : Nat → Int) (V : Tb) (jc : Nat → Int) (sp wh : Int) (B : Int) (hG : GI B T K ik SB SS SN tn TB F) (hB : B ≤ 40000) (h_sp : rI sp) (h_wh : rI wh) : Ct l yX4_of wsX4_of 4 90 D [(cI, .int), (cB, .byte)] [.ref x, .int (iI sp), .int (iI wh)] (wC cI cB x f q kq vq h g (T, K, ik, SB, SS, SN, tn, TB, F) V jc) (S := (Int × Gs) × Tb × (Nat → Int)) (fun u => some (.int (iI u.1.1))) (fun u => u.1 = m_of sp wh T K ik SB SS SN tn TB F) (fun u => wC cI cB x f q kq vq h g u.1.2 u.2.1 u.2.2) := by
  refine CtI.of (cc := cX4_of) (maxL := 3) (by decide +kernel) rfl (Nat.le_of_ble_eq_true rfl) ?_
  intro pg e s m args below meth c Q A hx hb hml hts hown hP hK hD hS ls hl kend
  have hown : s.vm.findClass RX4 = some m.cls := hown
  have hl : lv_has ls 3 [(0, .ref x), (1, .int (iI sp)), (2, .int (iI wh))] := hl
  obtain ⟨hI, hIK, hik, hSB, hSS, hSN, htn, hTB, hF⟩ := id hG
  have hn := Inv_n hI
  have hdy := Inv_d hI
  have hP : va_P D vwCl (wObj x f q kq vq h g ik ++ (wTab cI q T (jc 0) ++ (wTab cI kq K (jc 1) ++ (wTab cI vq V (jc 2) ++ (wSh cI h SB SS SN ++ (wTp cB g tn TB jc ++ (wA cI f 7 F))))))) s.heap := hP
  have hD : va_D A (wObj x f q kq vq h g ik ++ (wTab cI q T (jc 0) ++ (wTab cI kq K (jc 1) ++ (wTab cI vq V (jc 2) ++ (wSh cI h SB SS SN ++ (wTp cB g tn TB jc ++ (wA cI f 7 F))))))) := hD
  refine lv_aload_n hx hb dX4_of_0 rfl (lv_at hl 0 rfl) ?_
  refine va_get (D := D) (ci := 3) (v := .ref (q 0)) (C := RX4) (T := TX4) (N := 7) hx hb hts (iT_X4_of_X4) hown hK hP 0 rfl rfl 0 (by decide) (hts (.fieldLink RX4 10 "WordSupper" "table" "LWordSupper$Table;") (by decide +kernel)) (fun _ h9 => h9) rfl dX4_of_1 ?_
  refine lv_iload_n hx hb dX4_of_4 rfl (lv_at hl 1 rfl) ?_
  refine x_callV (As := [.int (iI sp)]) (rest := []) ⟨hx, hb, hml, hown, hts⟩ (kX2_isSeat q T (jc 0) sp (by omega) (by omega)) (cwV 1 hts gX4_of_X2_isSeat rfl rfl rfl ykVX2_isSeat ⟨Nat.le_of_ble_eq_true rfl, Nat.le_of_ble_eq_true rfl⟩) hP hK hD hS 1 1 rfl rfl rfl [1, 2, 3, 4, 5, 6, 7, 8] rfl (by decide) (fun _ => rfl) (fun _ => wObj x f q kq vq h g ik ++ (wTab cI q T (jc 0) ++ (wTab cI kq K (jc 1) ++ (wTab cI vq V (jc 2) ++ (wSh cI h SB SS SN ++ (wTp cB g tn TB jc ++ (wA cI f 7 F))))))) (fun _ => rfl) rfl hl.1 rfl (Nat.le_of_ble_eq_true rfl) dX4_of_5 ⟨Nat.le_of_ble_eq_true rfl, Nat.le_of_ble_eq_true rfl⟩ (fun _ H locs _ hP hD hS => ?_)
  refine W.eq (g2 := F0 m 8 ls [.int (iI (b2 (decide (0 ≤ sp ∧ sp < T 0))))]) rfl ?_
  refine x_ifb_eq (tgt := 21) hx hb dX4_of_8 (by decide) (fun c_8 => ?_) (fun c_8 => ?_)
  · refine lv_aload_n hx hb dX4_of_21 rfl (lv_at hl 0 rfl) ?_
    refine x_ldc hx hb (-1000001) rfl hown (hts (.constant RX4 44 (-1000001)) (by decide +kernel)) dX4_of_22 ?_
    refine x_callV (As := [.int (iI (-1000001))]) (rest := []) ⟨hx, hb, hml, hown, hts⟩ (kX4_finding x f q kq vq h g ik F (-1000001) 0 (by omega) (by omega)) (cwV 1 hts gX4_of_X4_finding rfl rfl rfl ykVX4_finding ⟨Nat.le_of_ble_eq_true rfl, Nat.le_of_ble_eq_true rfl⟩) hP hK hD hS 0 3 rfl rfl rfl [0, 31] rfl (by decide) (fun _ => rfl) (fun _ => wObj x f q kq vq h g ik ++ (wTab cI q T (jc 0) ++ (wTab cI kq K (jc 1) ++ (wTab cI vq V (jc 2) ++ (wSh cI h SB SS SN ++ (wTp cB g tn TB jc ++ (wA cI f 7 (bmp 0 F)))))))) (fun _ => rfl) rfl hl.1 rfl (Nat.le_of_ble_eq_true rfl) dX4_of_24 ⟨Nat.le_of_ble_eq_true rfl, Nat.le_of_ble_eq_true rfl⟩ (fun _ H locs _ hP hD hS => ?_)
    refine W.eq (g2 := F0 m 27 ls [.int (iI (-1000001))]) rfl ?_
    exact kend (((-1000001), T, K, ik, SB, SS, SN, tn, TB, (bmp 0 F)), V, jc) hP hS rfl (if_neg (by omega)).symm dX4_of_27
  · refine lv_iload_n hx hb dX4_of_11 rfl (lv_at hl 2 rfl) ?_
    refine x_iconst hx hb dX4_of_12 ?_
    refine x_bipush hx hb dX4_of_13 (by decide) ?_
    refine x_callS (As := [.int (iI wh), .int (iI 0), .int (iI 6)]) (rest := []) ⟨hx, hb, hml, hown, hts⟩ (kX4_isWithin wh 0 6 (by omega) (by decide) (by decide)) (va_cwS 3 hts gX4_of_X4_isWithin rfl rfl rfl ykSX4_isWithin ⟨Nat.le_of_ble_eq_true rfl, Nat.le_of_ble_eq_true rfl⟩) hP hK hD hS [] rfl (by decide) (fun _ => rfl) (fun _ => wObj x f q kq vq h g ik ++ (wTab cI q T (jc 0) ++ (wTab cI kq K (jc 1) ++ (wTab cI vq V (jc 2) ++ (wSh cI h SB SS SN ++ (wTp cB g tn TB jc ++ (wA cI f 7 F))))))) (fun _ => rfl) rfl hl.1 rfl (Nat.le_of_ble_eq_true rfl) dX4_of_15 ⟨Nat.le_of_ble_eq_true rfl, Nat.le_of_ble_eq_true rfl⟩ (fun _ H locs _ hP hD hS => ?_)
    refine W.eq (g2 := F0 m 18 ls [.int (iI (b2 (decide (0 ≤ wh ∧ wh ≤ 6))))]) rfl ?_
    refine x_ifb_ne (tgt := 28) hx hb dX4_of_18 (by decide) (fun c_18 => ?_) (fun c_18 => ?_)
    · obtain ⟨p0, rfl⟩ : ∃ p0 : Nat, sp = (p0 : Int) := ⟨sp.toNat, by omega⟩
      refine lv_aload_n hx hb dX4_of_28 rfl (lv_at hl 0 rfl) ?_
      refine va_get (D := D) (ci := 3) (v := .ref (q 0)) (C := RX4) (T := TX4) (N := 7) hx hb hts (iT_X4_of_X4) hown hK hP 0 rfl rfl 0 (by decide) (hts (.fieldLink RX4 10 "WordSupper" "table" "LWordSupper$Table;") (by decide +kernel)) (fun _ h9 => h9) rfl dX4_of_29 ?_
      refine lv_iload_n hx hb dX4_of_32 rfl (lv_at hl 1 rfl) ?_
      refine lv_iload_n hx hb dX4_of_33 rfl (lv_at hl 2 rfl) ?_
      refine x_callV (As := [.int (iI ((p0 : Nat) : Int)), .int (iI wh)]) (rest := []) ⟨hx, hb, hml, hown, hts⟩ (kX2_trait q T (jc 0) p0 wh B (by omega) (by omega) (by omega)) (cwV 2 hts gX4_of_X2_trait rfl rfl rfl ykVX2_trait ⟨Nat.le_of_ble_eq_true rfl, Nat.le_of_ble_eq_true rfl⟩) hP hK hD hS 1 1 rfl rfl rfl [1, 2, 3, 4, 5, 6, 7, 8] rfl (by decide) (fun _ => rfl) (fun _ => wObj x f q kq vq h g ik ++ (wTab cI q T (jc 0) ++ (wTab cI kq K (jc 1) ++ (wTab cI vq V (jc 2) ++ (wSh cI h SB SS SN ++ (wTp cB g tn TB jc ++ (wA cI f 7 F))))))) (fun _ => rfl) rfl hl.1 rfl (Nat.le_of_ble_eq_true rfl) dX4_of_34 ⟨Nat.le_of_ble_eq_true rfl, Nat.le_of_ble_eq_true rfl⟩ (fun _ H locs _ hP hD hS => ?_)
      refine W.eq (g2 := F0 m 37 ls [.int (iI (trF T p0 wh))]) rfl ?_
      exact kend ((trF T p0 wh, T, K, ik, SB, SS, SN, tn, TB, F), V, jc) hP hS rfl (if_pos (by omega)).symm dX4_of_37
    · refine lv_aload_n hx hb dX4_of_21 rfl (lv_at hl 0 rfl) ?_
      refine x_ldc hx hb (-1000001) rfl hown (hts (.constant RX4 44 (-1000001)) (by decide +kernel)) dX4_of_22 ?_
      refine x_callV (As := [.int (iI (-1000001))]) (rest := []) ⟨hx, hb, hml, hown, hts⟩ (kX4_finding x f q kq vq h g ik F (-1000001) 0 (by omega) (by omega)) (cwV 1 hts gX4_of_X4_finding rfl rfl rfl ykVX4_finding ⟨Nat.le_of_ble_eq_true rfl, Nat.le_of_ble_eq_true rfl⟩) hP hK hD hS 0 3 rfl rfl rfl [0, 31] rfl (by decide) (fun _ => rfl) (fun _ => wObj x f q kq vq h g ik ++ (wTab cI q T (jc 0) ++ (wTab cI kq K (jc 1) ++ (wTab cI vq V (jc 2) ++ (wSh cI h SB SS SN ++ (wTp cB g tn TB jc ++ (wA cI f 7 (bmp 0 F)))))))) (fun _ => rfl) rfl hl.1 rfl (Nat.le_of_ble_eq_true rfl) dX4_of_24 ⟨Nat.le_of_ble_eq_true rfl, Nat.le_of_ble_eq_true rfl⟩ (fun _ H locs _ hP hD hS => ?_)
      refine W.eq (g2 := F0 m 27 ls [.int (iI (-1000001))]) rfl ?_
      exact kend (((-1000001), T, K, ik, SB, SS, SN, tn, TB, (bmp 0 F)), V, jc) hP hS rfl (if_neg (by omega)).symm dX4_of_27
theorem ykSX4_plate : yX4_plate.cls ≠ "java/lang/invoke/MethodHandle" ∧ yX4_plate.cls ≠ "java/lang/invoke/VarHandle" ∧ (parseMethodDescriptor yX4_plate.desc).map (fun d => d.parameters.length) = some 2 := by decide +kernel
theorem ykVX4_plate : yX4_plate.cls = RX4 ∧ yX4_plate.cls ≠ "java/lang/invoke/MethodHandle" ∧ yX4_plate.cls ≠ "java/lang/invoke/VarHandle" ∧ (parseMethodDescriptor yX4_plate.desc).map (fun d => d.parameters.length) = some 2 := ⟨rfl, ykSX4_plate⟩
set_option maxRecDepth 20000 in
theorem iT_X4_plate_X4 : ∀ w ∈ u_ws RX4 TX4 7, w ∈ wsX4_plate := by decide +kernel
set_option maxRecDepth 20000 in
theorem iT_X4_plate_X2 : ∀ w ∈ u_ws RX2 TX2 12, w ∈ wsX4_plate := by decide +kernel
set_option maxHeartbeats 4000000 in
set_option maxRecDepth 100000 in
theorem kX4_plate {l : Launch} {D : va_G} {cI cB : ClassId} (x f : Nat) (q kq vq h g : Nat → Nat) (T K : Tb) (ik : Int) (SB SS SN : Nat → Int) (tn : Int) (TB F : Nat → Int) (V : Tb) (jc : Nat → Int) (sp t : Int) (B : Int) (hG : GI B T K ik SB SS SN tn TB F) (hB : B ≤ 40000) (h_sp : rI sp) (h_t : rI t) : Ct l yX4_plate wsX4_plate 2 44 D [(cI, .int), (cB, .byte)] [.ref x, .int (iI sp), .int (iI t)] (wC cI cB x f q kq vq h g (T, K, ik, SB, SS, SN, tn, TB, F) V jc) (S := (Int × Gs) × Tb × (Nat → Int)) (fun u => some (.int (iI u.1.1))) (fun u => u.1 = m_plate sp t T K ik SB SS SN tn TB F) (fun u => wC cI cB x f q kq vq h g u.1.2 u.2.1 u.2.2) := by
  refine CtI.of (cc := cX4_plate) (maxL := 3) (by decide +kernel) rfl (Nat.le_of_ble_eq_true rfl) ?_
  intro pg e s m args below meth c Q A hx hb hml hts hown hP hK hD hS ls hl kend
  have hown : s.vm.findClass RX4 = some m.cls := hown
  have hl : lv_has ls 3 [(0, .ref x), (1, .int (iI sp)), (2, .int (iI t))] := hl
  obtain ⟨hI, hIK, hik, hSB, hSS, hSN, htn, hTB, hF⟩ := id hG
  have hn := Inv_n hI
  have hdy := Inv_d hI
  have hP : va_P D vwCl (wObj x f q kq vq h g ik ++ (wTab cI q T (jc 0) ++ (wTab cI kq K (jc 1) ++ (wTab cI vq V (jc 2) ++ (wSh cI h SB SS SN ++ (wTp cB g tn TB jc ++ (wA cI f 7 F))))))) s.heap := hP
  have hD : va_D A (wObj x f q kq vq h g ik ++ (wTab cI q T (jc 0) ++ (wTab cI kq K (jc 1) ++ (wTab cI vq V (jc 2) ++ (wSh cI h SB SS SN ++ (wTp cB g tn TB jc ++ (wA cI f 7 F))))))) := hD
  refine lv_aload_n hx hb dX4_plate_0 rfl (lv_at hl 0 rfl) ?_
  refine va_get (D := D) (ci := 3) (v := .ref (q 0)) (C := RX4) (T := TX4) (N := 7) hx hb hts (iT_X4_plate_X4) hown hK hP 0 rfl rfl 0 (by decide) (hts (.fieldLink RX4 10 "WordSupper" "table" "LWordSupper$Table;") (by decide +kernel)) (fun _ h9 => h9) rfl dX4_plate_1 ?_
  refine lv_iload_n hx hb dX4_plate_4 rfl (lv_at hl 1 rfl) ?_
  refine x_callV (As := [.int (iI sp)]) (rest := []) ⟨hx, hb, hml, hown, hts⟩ (kX2_isSeat q T (jc 0) sp (by omega) (by omega)) (cwV 1 hts gX4_plate_X2_isSeat rfl rfl rfl ykVX2_isSeat ⟨Nat.le_of_ble_eq_true rfl, Nat.le_of_ble_eq_true rfl⟩) hP hK hD hS 1 1 rfl rfl rfl [1, 2, 3, 4, 5, 6, 7, 8] rfl (by decide) (fun _ => rfl) (fun _ => wObj x f q kq vq h g ik ++ (wTab cI q T (jc 0) ++ (wTab cI kq K (jc 1) ++ (wTab cI vq V (jc 2) ++ (wSh cI h SB SS SN ++ (wTp cB g tn TB jc ++ (wA cI f 7 F))))))) (fun _ => rfl) rfl hl.1 rfl (Nat.le_of_ble_eq_true rfl) dX4_plate_5 ⟨Nat.le_of_ble_eq_true rfl, Nat.le_of_ble_eq_true rfl⟩ (fun _ H locs _ hP hD hS => ?_)
  refine W.eq (g2 := F0 m 8 ls [.int (iI (b2 (decide (0 ≤ sp ∧ sp < T 0))))]) rfl ?_
  refine x_ifb_eq (tgt := 18) hx hb dX4_plate_8 (by decide) (fun c_8 => ?_) (fun c_8 => ?_)
  · refine lv_aload_n hx hb dX4_plate_18 rfl (lv_at hl 0 rfl) ?_
    refine x_ldc hx hb (-1000001) rfl hown (hts (.constant RX4 44 (-1000001)) (by decide +kernel)) dX4_plate_19 ?_
    refine x_callV (As := [.int (iI (-1000001))]) (rest := []) ⟨hx, hb, hml, hown, hts⟩ (kX4_finding x f q kq vq h g ik F (-1000001) 0 (by omega) (by omega)) (cwV 1 hts gX4_plate_X4_finding rfl rfl rfl ykVX4_finding ⟨Nat.le_of_ble_eq_true rfl, Nat.le_of_ble_eq_true rfl⟩) hP hK hD hS 0 3 rfl rfl rfl [0, 31] rfl (by decide) (fun _ => rfl) (fun _ => wObj x f q kq vq h g ik ++ (wTab cI q T (jc 0) ++ (wTab cI kq K (jc 1) ++ (wTab cI vq V (jc 2) ++ (wSh cI h SB SS SN ++ (wTp cB g tn TB jc ++ (wA cI f 7 (bmp 0 F)))))))) (fun _ => rfl) rfl hl.1 rfl (Nat.le_of_ble_eq_true rfl) dX4_plate_21 ⟨Nat.le_of_ble_eq_true rfl, Nat.le_of_ble_eq_true rfl⟩ (fun _ H locs _ hP hD hS => ?_)
    refine W.eq (g2 := F0 m 24 ls [.int (iI (-1000001))]) rfl ?_
    exact kend (((-1000001), T, K, ik, SB, SS, SN, tn, TB, (bmp 0 F)), V, jc) hP hS rfl (if_neg (by omega)).symm dX4_plate_24
  · refine lv_iload_n hx hb dX4_plate_11 rfl (lv_at hl 2 rfl) ?_
    refine x_callS (As := [.int (iI t)]) (rest := []) ⟨hx, hb, hml, hown, hts⟩ (kX4_isTaste t (by omega)) (va_cwS 1 hts gX4_plate_X4_isTaste rfl rfl rfl ykSX4_isTaste ⟨Nat.le_of_ble_eq_true rfl, Nat.le_of_ble_eq_true rfl⟩) hP hK hD hS [] rfl (by decide) (fun _ => rfl) (fun _ => wObj x f q kq vq h g ik ++ (wTab cI q T (jc 0) ++ (wTab cI kq K (jc 1) ++ (wTab cI vq V (jc 2) ++ (wSh cI h SB SS SN ++ (wTp cB g tn TB jc ++ (wA cI f 7 F))))))) (fun _ => rfl) rfl hl.1 rfl (Nat.le_of_ble_eq_true rfl) dX4_plate_12 ⟨Nat.le_of_ble_eq_true rfl, Nat.le_of_ble_eq_true rfl⟩ (fun _ H locs _ hP hD hS => ?_)
    refine W.eq (g2 := F0 m 15 ls [.int (iI (b2 (decide (0 ≤ t ∧ t ≤ 5))))]) rfl ?_
    refine x_ifb_ne (tgt := 25) hx hb dX4_plate_15 (by decide) (fun c_15 => ?_) (fun c_15 => ?_)
    · obtain ⟨p0, rfl⟩ : ∃ p0 : Nat, sp = (p0 : Int) := ⟨sp.toNat, by omega⟩
      obtain ⟨t0, rfl⟩ : ∃ t0 : Nat, t = (t0 : Int) := ⟨t.toNat, by omega⟩
      refine lv_aload_n hx hb dX4_plate_25 rfl (lv_at hl 0 rfl) ?_
      refine va_get (D := D) (ci := 3) (v := .ref (q 0)) (C := RX4) (T := TX4) (N := 7) hx hb hts (iT_X4_plate_X4) hown hK hP 0 rfl rfl 0 (by decide) (hts (.fieldLink RX4 10 "WordSupper" "table" "LWordSupper$Table;") (by decide +kernel)) (fun _ h9 => h9) rfl dX4_plate_26 ?_
      refine va_get (D := D) (ci := 1) (v := .ref (q 6)) (C := RX2) (T := TX2) (N := 12) hx hb hts (iT_X4_plate_X2) hown hK hP 1 rfl rfl 10 (by decide) (hts (.fieldLink RX4 98 "WordSupper$Table" "plates" "[I") (by decide +kernel)) (fun _ h9 => h9) rfl dX4_plate_29 ?_
      refine lv_iload_n hx hb dX4_plate_32 rfl (lv_at hl 1 rfl) ?_
      refine lv_iload_n hx hb dX4_plate_33 rfl (lv_at hl 2 rfl) ?_
      refine x_callS (As := [.int (iI ((p0 : Nat) : Int)), .int (iI ((t0 : Nat) : Int))]) (rest := [.ref (q 6)]) ⟨hx, hb, hml, hown, hts⟩ (kX2_at p0 t0 (by omega) (by omega)) (va_cwS 2 hts gX4_plate_X2_at rfl rfl rfl ykSX2_at ⟨Nat.le_of_ble_eq_true rfl, Nat.le_of_ble_eq_true rfl⟩) hP hK hD hS [] rfl (by decide) (fun _ => rfl) (fun _ => wObj x f q kq vq h g ik ++ (wTab cI q T (jc 0) ++ (wTab cI kq K (jc 1) ++ (wTab cI vq V (jc 2) ++ (wSh cI h SB SS SN ++ (wTp cB g tn TB jc ++ (wA cI f 7 F))))))) (fun _ => rfl) rfl hl.1 rfl (Nat.le_of_ble_eq_true rfl) dX4_plate_34 ⟨Nat.le_of_ble_eq_true rfl, Nat.le_of_ble_eq_true rfl⟩ (fun _ H locs _ hP hD hS => ?_)
      refine W.eq (g2 := F0 m 37 ls [.int (iI ((6 * p0 + t0 : Nat) : Int)), .ref (q 6)]) rfl ?_
      refine x_iald hx hb hK hP 7 0 rfl rfl (6 * p0 + t0) rfl (by omega) (by decide) (T (cx p0 (4 + t0))) (plG_gd _ (by omega) (by omega)) dX4_plate_37 ?_
      exact kend ((T (cx p0 (4 + t0)), T, K, ik, SB, SS, SN, tn, TB, F), V, jc) hP hS rfl (if_pos (by omega)).symm dX4_plate_38
    · refine lv_aload_n hx hb dX4_plate_18 rfl (lv_at hl 0 rfl) ?_
      refine x_ldc hx hb (-1000001) rfl hown (hts (.constant RX4 44 (-1000001)) (by decide +kernel)) dX4_plate_19 ?_
      refine x_callV (As := [.int (iI (-1000001))]) (rest := []) ⟨hx, hb, hml, hown, hts⟩ (kX4_finding x f q kq vq h g ik F (-1000001) 0 (by omega) (by omega)) (cwV 1 hts gX4_plate_X4_finding rfl rfl rfl ykVX4_finding ⟨Nat.le_of_ble_eq_true rfl, Nat.le_of_ble_eq_true rfl⟩) hP hK hD hS 0 3 rfl rfl rfl [0, 31] rfl (by decide) (fun _ => rfl) (fun _ => wObj x f q kq vq h g ik ++ (wTab cI q T (jc 0) ++ (wTab cI kq K (jc 1) ++ (wTab cI vq V (jc 2) ++ (wSh cI h SB SS SN ++ (wTp cB g tn TB jc ++ (wA cI f 7 (bmp 0 F)))))))) (fun _ => rfl) rfl hl.1 rfl (Nat.le_of_ble_eq_true rfl) dX4_plate_21 ⟨Nat.le_of_ble_eq_true rfl, Nat.le_of_ble_eq_true rfl⟩ (fun _ H locs _ hP hD hS => ?_)
      refine W.eq (g2 := F0 m 24 ls [.int (iI (-1000001))]) rfl ?_
      exact kend (((-1000001), T, K, ik, SB, SS, SN, tn, TB, (bmp 0 F)), V, jc) hP hS rfl (if_neg (by omega)).symm dX4_plate_24
theorem ykSX4_serve : yX4_serve.cls ≠ "java/lang/invoke/MethodHandle" ∧ yX4_serve.cls ≠ "java/lang/invoke/VarHandle" ∧ (parseMethodDescriptor yX4_serve.desc).map (fun d => d.parameters.length) = some 3 := by decide +kernel
theorem ykVX4_serve : yX4_serve.cls = RX4 ∧ yX4_serve.cls ≠ "java/lang/invoke/MethodHandle" ∧ yX4_serve.cls ≠ "java/lang/invoke/VarHandle" ∧ (parseMethodDescriptor yX4_serve.desc).map (fun d => d.parameters.length) = some 3 := ⟨rfl, ykSX4_serve⟩
set_option maxRecDepth 20000 in
theorem iT_X4_serve_X4 : ∀ w ∈ u_ws RX4 TX4 7, w ∈ wsX4_serve := by decide +kernel
set_option maxRecDepth 20000 in
theorem iT_X4_serve_X2 : ∀ w ∈ u_ws RX2 TX2 12, w ∈ wsX4_serve := by decide +kernel
set_option maxHeartbeats 4000000 in
set_option maxRecDepth 100000 in
theorem kX4_serve {l : Launch} {D : va_G} {cI cB : ClassId} (x f : Nat) (q kq vq h g : Nat → Nat) (T K : Tb) (ik : Int) (SB SS SN : Nat → Int) (tn : Int) (TB F : Nat → Int) (V : Tb) (jc : Nat → Int) (sp t v : Int) (B : Int) (hG : GI B T K ik SB SS SN tn TB F) (hB : B ≤ 40000) (h_sp : rI sp) (h_t : rI t) (h_v : rI v) : Ct l yX4_serve wsX4_serve 2 44 D [(cI, .int), (cB, .byte)] [.ref x, .int (iI sp), .int (iI t), .int (iI v)] (wC cI cB x f q kq vq h g (T, K, ik, SB, SS, SN, tn, TB, F) V jc) (S := (Int × Gs) × Tb × (Nat → Int)) (fun u => some (.int (iI u.1.1))) (fun u => u.1 = m_serve sp t v T K ik SB SS SN tn TB F) (fun u => wC cI cB x f q kq vq h g u.1.2 u.2.1 u.2.2) := by
  refine CtI.of (cc := cX4_serve) (maxL := 4) (by decide +kernel) rfl (Nat.le_of_ble_eq_true rfl) ?_
  intro pg e s m args below meth c Q A hx hb hml hts hown hP hK hD hS ls hl kend
  have hown : s.vm.findClass RX4 = some m.cls := hown
  have hl : lv_has ls 4 [(0, .ref x), (1, .int (iI sp)), (2, .int (iI t)), (3, .int (iI v))] := hl
  obtain ⟨hI, hIK, hik, hSB, hSS, hSN, htn, hTB, hF⟩ := id hG
  have hn := Inv_n hI
  have hdy := Inv_d hI
  have hP : va_P D vwCl (wObj x f q kq vq h g ik ++ (wTab cI q T (jc 0) ++ (wTab cI kq K (jc 1) ++ (wTab cI vq V (jc 2) ++ (wSh cI h SB SS SN ++ (wTp cB g tn TB jc ++ (wA cI f 7 F))))))) s.heap := hP
  have hD : va_D A (wObj x f q kq vq h g ik ++ (wTab cI q T (jc 0) ++ (wTab cI kq K (jc 1) ++ (wTab cI vq V (jc 2) ++ (wSh cI h SB SS SN ++ (wTp cB g tn TB jc ++ (wA cI f 7 F))))))) := hD
  refine lv_aload_n hx hb dX4_serve_0 rfl (lv_at hl 0 rfl) ?_
  refine va_get (D := D) (ci := 3) (v := .ref (q 0)) (C := RX4) (T := TX4) (N := 7) hx hb hts (iT_X4_serve_X4) hown hK hP 0 rfl rfl 0 (by decide) (hts (.fieldLink RX4 10 "WordSupper" "table" "LWordSupper$Table;") (by decide +kernel)) (fun _ h9 => h9) rfl dX4_serve_1 ?_
  refine lv_iload_n hx hb dX4_serve_4 rfl (lv_at hl 1 rfl) ?_
  refine x_callV (As := [.int (iI sp)]) (rest := []) ⟨hx, hb, hml, hown, hts⟩ (kX2_isSeat q T (jc 0) sp (by omega) (by omega)) (cwV 1 hts gX4_serve_X2_isSeat rfl rfl rfl ykVX2_isSeat ⟨Nat.le_of_ble_eq_true rfl, Nat.le_of_ble_eq_true rfl⟩) hP hK hD hS 1 1 rfl rfl rfl [1, 2, 3, 4, 5, 6, 7, 8] rfl (by decide) (fun _ => rfl) (fun _ => wObj x f q kq vq h g ik ++ (wTab cI q T (jc 0) ++ (wTab cI kq K (jc 1) ++ (wTab cI vq V (jc 2) ++ (wSh cI h SB SS SN ++ (wTp cB g tn TB jc ++ (wA cI f 7 F))))))) (fun _ => rfl) rfl hl.1 rfl (Nat.le_of_ble_eq_true rfl) dX4_serve_5 ⟨Nat.le_of_ble_eq_true rfl, Nat.le_of_ble_eq_true rfl⟩ (fun _ H locs _ hP hD hS => ?_)
  refine W.eq (g2 := F0 m 8 ls [.int (iI (b2 (decide (0 ≤ sp ∧ sp < T 0))))]) rfl ?_
  refine x_ifb_eq (tgt := 29) hx hb dX4_serve_8 (by decide) (fun c_8 => ?_) (fun c_8 => ?_)
  · refine lv_aload_n hx hb dX4_serve_29 rfl (lv_at hl 0 rfl) ?_
    refine x_ldc hx hb (-1000001) rfl hown (hts (.constant RX4 44 (-1000001)) (by decide +kernel)) dX4_serve_30 ?_
    refine x_callV (As := [.int (iI (-1000001))]) (rest := []) ⟨hx, hb, hml, hown, hts⟩ (kX4_finding x f q kq vq h g ik F (-1000001) 0 (by omega) (by omega)) (cwV 1 hts gX4_serve_X4_finding rfl rfl rfl ykVX4_finding ⟨Nat.le_of_ble_eq_true rfl, Nat.le_of_ble_eq_true rfl⟩) hP hK hD hS 0 3 rfl rfl rfl [0, 31] rfl (by decide) (fun _ => rfl) (fun _ => wObj x f q kq vq h g ik ++ (wTab cI q T (jc 0) ++ (wTab cI kq K (jc 1) ++ (wTab cI vq V (jc 2) ++ (wSh cI h SB SS SN ++ (wTp cB g tn TB jc ++ (wA cI f 7 (bmp 0 F)))))))) (fun _ => rfl) rfl hl.1 rfl (Nat.le_of_ble_eq_true rfl) dX4_serve_32 ⟨Nat.le_of_ble_eq_true rfl, Nat.le_of_ble_eq_true rfl⟩ (fun _ H locs _ hP hD hS => ?_)
    refine W.eq (g2 := F0 m 35 ls [.int (iI (-1000001))]) rfl ?_
    exact kend (((-1000001), T, K, ik, SB, SS, SN, tn, TB, (bmp 0 F)), V, jc) hP hS rfl (if_neg (by omega)).symm dX4_serve_35
  · refine lv_iload_n hx hb dX4_serve_11 rfl (lv_at hl 2 rfl) ?_
    refine x_callS (As := [.int (iI t)]) (rest := []) ⟨hx, hb, hml, hown, hts⟩ (kX4_isTaste t (by omega)) (va_cwS 1 hts gX4_serve_X4_isTaste rfl rfl rfl ykSX4_isTaste ⟨Nat.le_of_ble_eq_true rfl, Nat.le_of_ble_eq_true rfl⟩) hP hK hD hS [] rfl (by decide) (fun _ => rfl) (fun _ => wObj x f q kq vq h g ik ++ (wTab cI q T (jc 0) ++ (wTab cI kq K (jc 1) ++ (wTab cI vq V (jc 2) ++ (wSh cI h SB SS SN ++ (wTp cB g tn TB jc ++ (wA cI f 7 F))))))) (fun _ => rfl) rfl hl.1 rfl (Nat.le_of_ble_eq_true rfl) dX4_serve_12 ⟨Nat.le_of_ble_eq_true rfl, Nat.le_of_ble_eq_true rfl⟩ (fun _ H locs _ hP hD hS => ?_)
    refine W.eq (g2 := F0 m 15 ls [.int (iI (b2 (decide (0 ≤ t ∧ t ≤ 5))))]) rfl ?_
    refine x_ifb_eq (tgt := 29) hx hb dX4_serve_15 (by decide) (fun c_15 => ?_) (fun c_15 => ?_)
    · refine lv_aload_n hx hb dX4_serve_29 rfl (lv_at hl 0 rfl) ?_
      refine x_ldc hx hb (-1000001) rfl hown (hts (.constant RX4 44 (-1000001)) (by decide +kernel)) dX4_serve_30 ?_
      refine x_callV (As := [.int (iI (-1000001))]) (rest := []) ⟨hx, hb, hml, hown, hts⟩ (kX4_finding x f q kq vq h g ik F (-1000001) 0 (by omega) (by omega)) (cwV 1 hts gX4_serve_X4_finding rfl rfl rfl ykVX4_finding ⟨Nat.le_of_ble_eq_true rfl, Nat.le_of_ble_eq_true rfl⟩) hP hK hD hS 0 3 rfl rfl rfl [0, 31] rfl (by decide) (fun _ => rfl) (fun _ => wObj x f q kq vq h g ik ++ (wTab cI q T (jc 0) ++ (wTab cI kq K (jc 1) ++ (wTab cI vq V (jc 2) ++ (wSh cI h SB SS SN ++ (wTp cB g tn TB jc ++ (wA cI f 7 (bmp 0 F)))))))) (fun _ => rfl) rfl hl.1 rfl (Nat.le_of_ble_eq_true rfl) dX4_serve_32 ⟨Nat.le_of_ble_eq_true rfl, Nat.le_of_ble_eq_true rfl⟩ (fun _ H locs _ hP hD hS => ?_)
      refine W.eq (g2 := F0 m 35 ls [.int (iI (-1000001))]) rfl ?_
      exact kend (((-1000001), T, K, ik, SB, SS, SN, tn, TB, (bmp 0 F)), V, jc) hP hS rfl (if_neg (by omega)).symm dX4_serve_35
    · refine lv_iload_n hx hb dX4_serve_18 rfl (lv_at hl 3 rfl) ?_
      refine x_iconst hx hb dX4_serve_19 ?_
      refine x_sipush hx hb dX4_serve_20 (by decide) ?_
      refine x_callS (As := [.int (iI v), .int (iI 0), .int (iI 999)]) (rest := []) ⟨hx, hb, hml, hown, hts⟩ (kX4_isWithin v 0 999 (by omega) (by decide) (by decide)) (va_cwS 3 hts gX4_serve_X4_isWithin rfl rfl rfl ykSX4_isWithin ⟨Nat.le_of_ble_eq_true rfl, Nat.le_of_ble_eq_true rfl⟩) hP hK hD hS [] rfl (by decide) (fun _ => rfl) (fun _ => wObj x f q kq vq h g ik ++ (wTab cI q T (jc 0) ++ (wTab cI kq K (jc 1) ++ (wTab cI vq V (jc 2) ++ (wSh cI h SB SS SN ++ (wTp cB g tn TB jc ++ (wA cI f 7 F))))))) (fun _ => rfl) rfl hl.1 rfl (Nat.le_of_ble_eq_true rfl) dX4_serve_23 ⟨Nat.le_of_ble_eq_true rfl, Nat.le_of_ble_eq_true rfl⟩ (fun _ H locs _ hP hD hS => ?_)
      refine W.eq (g2 := F0 m 26 ls [.int (iI (b2 (decide (0 ≤ v ∧ v ≤ 999))))]) rfl ?_
      refine x_ifb_ne (tgt := 36) hx hb dX4_serve_26 (by decide) (fun c_26 => ?_) (fun c_26 => ?_)
      · obtain ⟨p0, rfl⟩ : ∃ p0 : Nat, sp = (p0 : Int) := ⟨sp.toNat, by omega⟩
        obtain ⟨t0, rfl⟩ : ∃ t0 : Nat, t = (t0 : Int) := ⟨t.toNat, by omega⟩
        refine lv_aload_n hx hb dX4_serve_36 rfl (lv_at hl 0 rfl) ?_
        refine va_get (D := D) (ci := 3) (v := .ref (q 0)) (C := RX4) (T := TX4) (N := 7) hx hb hts (iT_X4_serve_X4) hown hK hP 0 rfl rfl 0 (by decide) (hts (.fieldLink RX4 10 "WordSupper" "table" "LWordSupper$Table;") (by decide +kernel)) (fun _ h9 => h9) rfl dX4_serve_37 ?_
        refine va_get (D := D) (ci := 1) (v := .ref (q 6)) (C := RX2) (T := TX2) (N := 12) hx hb hts (iT_X4_serve_X2) hown hK hP 1 rfl rfl 10 (by decide) (hts (.fieldLink RX4 98 "WordSupper$Table" "plates" "[I") (by decide +kernel)) (fun _ h9 => h9) rfl dX4_serve_40 ?_
        refine lv_iload_n hx hb dX4_serve_43 rfl (lv_at hl 1 rfl) ?_
        refine lv_iload_n hx hb dX4_serve_44 rfl (lv_at hl 2 rfl) ?_
        refine x_callS (As := [.int (iI ((p0 : Nat) : Int)), .int (iI ((t0 : Nat) : Int))]) (rest := [.ref (q 6)]) ⟨hx, hb, hml, hown, hts⟩ (kX2_at p0 t0 (by omega) (by omega)) (va_cwS 2 hts gX4_serve_X2_at rfl rfl rfl ykSX2_at ⟨Nat.le_of_ble_eq_true rfl, Nat.le_of_ble_eq_true rfl⟩) hP hK hD hS [] rfl (by decide) (fun _ => rfl) (fun _ => wObj x f q kq vq h g ik ++ (wTab cI q T (jc 0) ++ (wTab cI kq K (jc 1) ++ (wTab cI vq V (jc 2) ++ (wSh cI h SB SS SN ++ (wTp cB g tn TB jc ++ (wA cI f 7 F))))))) (fun _ => rfl) rfl hl.1 rfl (Nat.le_of_ble_eq_true rfl) dX4_serve_45 ⟨Nat.le_of_ble_eq_true rfl, Nat.le_of_ble_eq_true rfl⟩ (fun _ H locs _ hP hD hS => ?_)
        refine W.eq (g2 := F0 m 48 ls [.int (iI ((6 * p0 + t0 : Nat) : Int)), .ref (q 6)]) rfl ?_
        refine lv_iload_n hx hb dX4_serve_48 rfl (lv_at hl 3 rfl) ?_
        refine x_callS (As := [.ref (q 6), .int (iI ((6 * p0 + t0 : Nat) : Int)), .int (iI v)]) (rest := []) ⟨hx, hb, hml, hown, hts⟩ (kX4_exchange (q 6) 48 (plG T) (6 * p0 + t0) v (by omega) (by decide)) (va_cwS 3 hts gX4_serve_X4_exchange rfl rfl rfl ykSX4_exchange ⟨Nat.le_of_ble_eq_true rfl, Nat.le_of_ble_eq_true rfl⟩) hP hK hD hS [7] rfl (by decide) (fun _ => rfl) (fun _ => wObj x f q kq vq h g ik ++ (wTab cI q (va_up T (cx p0 (4 + t0)) v) (jc 0) ++ (wTab cI kq K (jc 1) ++ (wTab cI vq V (jc 2) ++ (wSh cI h SB SS SN ++ (wTp cB g tn TB jc ++ (wA cI f 7 F))))))) (fun _ => by rw [← wT_plates cI q T (jc 0) v p0 t0 (by omega) (by omega), gd_up _ _ (by omega)]; rfl) rfl hl.1 rfl (Nat.le_of_ble_eq_true rfl) dX4_serve_49 ⟨Nat.le_of_ble_eq_true rfl, Nat.le_of_ble_eq_true rfl⟩ (fun _ H locs _ hP hD hS => ?_)
        refine W.eq (g2 := F0 m 52 ls [.int (iI ((plG T) (6 * p0 + t0)))]) rfl ?_
        refine x_topi (T (cx p0 (4 + t0))) (plG_at _ (by omega)) ?_
        exact kend ((T (cx p0 (4 + t0)), va_up T (cx p0 (4 + t0)) v, K, ik, SB, SS, SN, tn, TB, F), V, jc) hP hS rfl (if_pos (by omega)).symm dX4_serve_52
      · refine lv_aload_n hx hb dX4_serve_29 rfl (lv_at hl 0 rfl) ?_
        refine x_ldc hx hb (-1000001) rfl hown (hts (.constant RX4 44 (-1000001)) (by decide +kernel)) dX4_serve_30 ?_
        refine x_callV (As := [.int (iI (-1000001))]) (rest := []) ⟨hx, hb, hml, hown, hts⟩ (kX4_finding x f q kq vq h g ik F (-1000001) 0 (by omega) (by omega)) (cwV 1 hts gX4_serve_X4_finding rfl rfl rfl ykVX4_finding ⟨Nat.le_of_ble_eq_true rfl, Nat.le_of_ble_eq_true rfl⟩) hP hK hD hS 0 3 rfl rfl rfl [0, 31] rfl (by decide) (fun _ => rfl) (fun _ => wObj x f q kq vq h g ik ++ (wTab cI q T (jc 0) ++ (wTab cI kq K (jc 1) ++ (wTab cI vq V (jc 2) ++ (wSh cI h SB SS SN ++ (wTp cB g tn TB jc ++ (wA cI f 7 (bmp 0 F)))))))) (fun _ => rfl) rfl hl.1 rfl (Nat.le_of_ble_eq_true rfl) dX4_serve_32 ⟨Nat.le_of_ble_eq_true rfl, Nat.le_of_ble_eq_true rfl⟩ (fun _ H locs _ hP hD hS => ?_)
        refine W.eq (g2 := F0 m 35 ls [.int (iI (-1000001))]) rfl ?_
        exact kend (((-1000001), T, K, ik, SB, SS, SN, tn, TB, (bmp 0 F)), V, jc) hP hS rfl (if_neg (by omega)).symm dX4_serve_35
theorem ykSX4_chews : yX4_chews.cls ≠ "java/lang/invoke/MethodHandle" ∧ yX4_chews.cls ≠ "java/lang/invoke/VarHandle" ∧ (parseMethodDescriptor yX4_chews.desc).map (fun d => d.parameters.length) = some 2 := by decide +kernel
theorem ykVX4_chews : yX4_chews.cls = RX4 ∧ yX4_chews.cls ≠ "java/lang/invoke/MethodHandle" ∧ yX4_chews.cls ≠ "java/lang/invoke/VarHandle" ∧ (parseMethodDescriptor yX4_chews.desc).map (fun d => d.parameters.length) = some 2 := ⟨rfl, ykSX4_chews⟩
set_option maxRecDepth 20000 in
theorem iT_X4_chews_X4 : ∀ w ∈ u_ws RX4 TX4 7, w ∈ wsX4_chews := by decide +kernel
set_option maxRecDepth 20000 in
theorem iT_X4_chews_X2 : ∀ w ∈ u_ws RX2 TX2 12, w ∈ wsX4_chews := by decide +kernel
set_option maxHeartbeats 4000000 in
set_option maxRecDepth 100000 in
theorem kX4_chews {l : Launch} {D : va_G} {cI cB : ClassId} (x f : Nat) (q kq vq h g : Nat → Nat) (T K : Tb) (ik : Int) (SB SS SN : Nat → Int) (tn : Int) (TB F : Nat → Int) (V : Tb) (jc : Nat → Int) (sp t : Int) (B : Int) (hG : GI B T K ik SB SS SN tn TB F) (hB : B ≤ 40000) (h_sp : rI sp) (h_t : rI t) : Ct l yX4_chews wsX4_chews 2 44 D [(cI, .int), (cB, .byte)] [.ref x, .int (iI sp), .int (iI t)] (wC cI cB x f q kq vq h g (T, K, ik, SB, SS, SN, tn, TB, F) V jc) (S := (Int × Gs) × Tb × (Nat → Int)) (fun u => some (.int (iI u.1.1))) (fun u => u.1 = m_chews sp t T K ik SB SS SN tn TB F) (fun u => wC cI cB x f q kq vq h g u.1.2 u.2.1 u.2.2) := by
  refine CtI.of (cc := cX4_chews) (maxL := 3) (by decide +kernel) rfl (Nat.le_of_ble_eq_true rfl) ?_
  intro pg e s m args below meth c Q A hx hb hml hts hown hP hK hD hS ls hl kend
  have hown : s.vm.findClass RX4 = some m.cls := hown
  have hl : lv_has ls 3 [(0, .ref x), (1, .int (iI sp)), (2, .int (iI t))] := hl
  obtain ⟨hI, hIK, hik, hSB, hSS, hSN, htn, hTB, hF⟩ := id hG
  have hn := Inv_n hI
  have hdy := Inv_d hI
  have hP : va_P D vwCl (wObj x f q kq vq h g ik ++ (wTab cI q T (jc 0) ++ (wTab cI kq K (jc 1) ++ (wTab cI vq V (jc 2) ++ (wSh cI h SB SS SN ++ (wTp cB g tn TB jc ++ (wA cI f 7 F))))))) s.heap := hP
  have hD : va_D A (wObj x f q kq vq h g ik ++ (wTab cI q T (jc 0) ++ (wTab cI kq K (jc 1) ++ (wTab cI vq V (jc 2) ++ (wSh cI h SB SS SN ++ (wTp cB g tn TB jc ++ (wA cI f 7 F))))))) := hD
  refine lv_aload_n hx hb dX4_chews_0 rfl (lv_at hl 0 rfl) ?_
  refine va_get (D := D) (ci := 3) (v := .ref (q 0)) (C := RX4) (T := TX4) (N := 7) hx hb hts (iT_X4_chews_X4) hown hK hP 0 rfl rfl 0 (by decide) (hts (.fieldLink RX4 10 "WordSupper" "table" "LWordSupper$Table;") (by decide +kernel)) (fun _ h9 => h9) rfl dX4_chews_1 ?_
  refine lv_iload_n hx hb dX4_chews_4 rfl (lv_at hl 1 rfl) ?_
  refine x_callV (As := [.int (iI sp)]) (rest := []) ⟨hx, hb, hml, hown, hts⟩ (kX2_isSeat q T (jc 0) sp (by omega) (by omega)) (cwV 1 hts gX4_chews_X2_isSeat rfl rfl rfl ykVX2_isSeat ⟨Nat.le_of_ble_eq_true rfl, Nat.le_of_ble_eq_true rfl⟩) hP hK hD hS 1 1 rfl rfl rfl [1, 2, 3, 4, 5, 6, 7, 8] rfl (by decide) (fun _ => rfl) (fun _ => wObj x f q kq vq h g ik ++ (wTab cI q T (jc 0) ++ (wTab cI kq K (jc 1) ++ (wTab cI vq V (jc 2) ++ (wSh cI h SB SS SN ++ (wTp cB g tn TB jc ++ (wA cI f 7 F))))))) (fun _ => rfl) rfl hl.1 rfl (Nat.le_of_ble_eq_true rfl) dX4_chews_5 ⟨Nat.le_of_ble_eq_true rfl, Nat.le_of_ble_eq_true rfl⟩ (fun _ H locs _ hP hD hS => ?_)
  refine W.eq (g2 := F0 m 8 ls [.int (iI (b2 (decide (0 ≤ sp ∧ sp < T 0))))]) rfl ?_
  refine x_ifb_eq (tgt := 18) hx hb dX4_chews_8 (by decide) (fun c_8 => ?_) (fun c_8 => ?_)
  · refine lv_aload_n hx hb dX4_chews_18 rfl (lv_at hl 0 rfl) ?_
    refine x_ldc hx hb (-1000001) rfl hown (hts (.constant RX4 44 (-1000001)) (by decide +kernel)) dX4_chews_19 ?_
    refine x_callV (As := [.int (iI (-1000001))]) (rest := []) ⟨hx, hb, hml, hown, hts⟩ (kX4_finding x f q kq vq h g ik F (-1000001) 0 (by omega) (by omega)) (cwV 1 hts gX4_chews_X4_finding rfl rfl rfl ykVX4_finding ⟨Nat.le_of_ble_eq_true rfl, Nat.le_of_ble_eq_true rfl⟩) hP hK hD hS 0 3 rfl rfl rfl [0, 31] rfl (by decide) (fun _ => rfl) (fun _ => wObj x f q kq vq h g ik ++ (wTab cI q T (jc 0) ++ (wTab cI kq K (jc 1) ++ (wTab cI vq V (jc 2) ++ (wSh cI h SB SS SN ++ (wTp cB g tn TB jc ++ (wA cI f 7 (bmp 0 F)))))))) (fun _ => rfl) rfl hl.1 rfl (Nat.le_of_ble_eq_true rfl) dX4_chews_21 ⟨Nat.le_of_ble_eq_true rfl, Nat.le_of_ble_eq_true rfl⟩ (fun _ H locs _ hP hD hS => ?_)
    refine W.eq (g2 := F0 m 24 ls [.int (iI (-1000001))]) rfl ?_
    exact kend (((-1000001), T, K, ik, SB, SS, SN, tn, TB, (bmp 0 F)), V, jc) hP hS rfl (if_neg (by omega)).symm dX4_chews_24
  · refine lv_iload_n hx hb dX4_chews_11 rfl (lv_at hl 2 rfl) ?_
    refine x_callS (As := [.int (iI t)]) (rest := []) ⟨hx, hb, hml, hown, hts⟩ (kX4_isTaste t (by omega)) (va_cwS 1 hts gX4_chews_X4_isTaste rfl rfl rfl ykSX4_isTaste ⟨Nat.le_of_ble_eq_true rfl, Nat.le_of_ble_eq_true rfl⟩) hP hK hD hS [] rfl (by decide) (fun _ => rfl) (fun _ => wObj x f q kq vq h g ik ++ (wTab cI q T (jc 0) ++ (wTab cI kq K (jc 1) ++ (wTab cI vq V (jc 2) ++ (wSh cI h SB SS SN ++ (wTp cB g tn TB jc ++ (wA cI f 7 F))))))) (fun _ => rfl) rfl hl.1 rfl (Nat.le_of_ble_eq_true rfl) dX4_chews_12 ⟨Nat.le_of_ble_eq_true rfl, Nat.le_of_ble_eq_true rfl⟩ (fun _ H locs _ hP hD hS => ?_)
    refine W.eq (g2 := F0 m 15 ls [.int (iI (b2 (decide (0 ≤ t ∧ t ≤ 5))))]) rfl ?_
    refine x_ifb_ne (tgt := 25) hx hb dX4_chews_15 (by decide) (fun c_15 => ?_) (fun c_15 => ?_)
    · obtain ⟨p0, rfl⟩ : ∃ p0 : Nat, sp = (p0 : Int) := ⟨sp.toNat, by omega⟩
      obtain ⟨t0, rfl⟩ : ∃ t0 : Nat, t = (t0 : Int) := ⟨t.toNat, by omega⟩
      have hkd := Inv_k (p := p0) hI (by omega)
      have hvn := Inv_v hI
      refine lv_aload_n hx hb dX4_chews_25 rfl (lv_at hl 0 rfl) ?_
      refine va_get (D := D) (ci := 3) (v := .ref (q 0)) (C := RX4) (T := TX4) (N := 7) hx hb hts (iT_X4_chews_X4) hown hK hP 0 rfl rfl 0 (by decide) (hts (.fieldLink RX4 10 "WordSupper" "table" "LWordSupper$Table;") (by decide +kernel)) (fun _ h9 => h9) rfl dX4_chews_26 ?_
      refine va_get (D := D) (ci := 1) (v := .ref (q 2)) (C := RX2) (T := TX2) (N := 12) hx hb hts (iT_X4_chews_X2) hown hK hP 1 rfl rfl 6 (by decide) (hts (.fieldLink RX4 81 "WordSupper$Table" "kind" "[I") (by decide +kernel)) (fun _ h9 => h9) rfl dX4_chews_29 ?_
      refine lv_iload_n hx hb dX4_chews_32 rfl (lv_at hl 1 rfl) ?_
      refine x_iald hx hb hK hP 3 0 rfl rfl p0 rfl (by omega) (by decide) (T (cx p0 0)) (gd_at _ (by omega)) dX4_chews_33 ?_
      refine lv_iload_n hx hb dX4_chews_34 rfl (lv_at hl 2 rfl) ?_
      refine lv_aload_n hx hb dX4_chews_35 rfl (lv_at hl 0 rfl) ?_
      refine va_get (D := D) (ci := 3) (v := .ref (q 0)) (C := RX4) (T := TX4) (N := 7) hx hb hts (iT_X4_chews_X4) hown hK hP 0 rfl rfl 0 (by decide) (hts (.fieldLink RX4 10 "WordSupper" "table" "LWordSupper$Table;") (by decide +kernel)) (fun _ h9 => h9) rfl dX4_chews_36 ?_
      refine va_get (D := D) (ci := 1) (v := .int (iI (T 3))) (C := RX2) (T := TX2) (N := 12) hx hb hts (iT_X4_chews_X2) hown hK hP 1 rfl rfl 1 (by decide) (hts (.fieldLink RX4 49 "WordSupper$Table" "vinegar" "I") (by decide +kernel)) (fun _ h9 => h9) rfl dX4_chews_39 ?_
      refine x_callS (As := [.int (iI (T (cx p0 0))), .int (iI ((t0 : Nat) : Int)), .int (iI (T 3))]) (rest := []) ⟨hx, hb, hml, hown, hts⟩ (kX0_bites (T (cx p0 0)) t0 (T 3) (by omega) (by omega) (by omega)) (va_cwS 3 hts gX4_chews_X0_bites rfl rfl rfl ykSX0_bites ⟨Nat.le_of_ble_eq_true rfl, Nat.le_of_ble_eq_true rfl⟩) hP hK hD hS [] rfl (by decide) (fun _ => rfl) (fun _ => wObj x f q kq vq h g ik ++ (wTab cI q T (jc 0) ++ (wTab cI kq K (jc 1) ++ (wTab cI vq V (jc 2) ++ (wSh cI h SB SS SN ++ (wTp cB g tn TB jc ++ (wA cI f 7 F))))))) (fun _ => rfl) rfl hl.1 rfl (Nat.le_of_ble_eq_true rfl) dX4_chews_42 ⟨Nat.le_of_ble_eq_true rfl, Nat.le_of_ble_eq_true rfl⟩ (fun _ H locs _ hP hD hS => ?_)
      refine W.eq (g2 := F0 m 45 ls [.int (iI (chF (T (cx p0 0)) ((t0 : Nat) : Int) (T 3)))]) rfl ?_
      exact kend ((chF (T (cx p0 0)) ((t0 : Nat) : Int) (T 3), T, K, ik, SB, SS, SN, tn, TB, F), V, jc) hP hS rfl (if_pos (by omega)).symm dX4_chews_45
    · refine lv_aload_n hx hb dX4_chews_18 rfl (lv_at hl 0 rfl) ?_
      refine x_ldc hx hb (-1000001) rfl hown (hts (.constant RX4 44 (-1000001)) (by decide +kernel)) dX4_chews_19 ?_
      refine x_callV (As := [.int (iI (-1000001))]) (rest := []) ⟨hx, hb, hml, hown, hts⟩ (kX4_finding x f q kq vq h g ik F (-1000001) 0 (by omega) (by omega)) (cwV 1 hts gX4_chews_X4_finding rfl rfl rfl ykVX4_finding ⟨Nat.le_of_ble_eq_true rfl, Nat.le_of_ble_eq_true rfl⟩) hP hK hD hS 0 3 rfl rfl rfl [0, 31] rfl (by decide) (fun _ => rfl) (fun _ => wObj x f q kq vq h g ik ++ (wTab cI q T (jc 0) ++ (wTab cI kq K (jc 1) ++ (wTab cI vq V (jc 2) ++ (wSh cI h SB SS SN ++ (wTp cB g tn TB jc ++ (wA cI f 7 (bmp 0 F)))))))) (fun _ => rfl) rfl hl.1 rfl (Nat.le_of_ble_eq_true rfl) dX4_chews_21 ⟨Nat.le_of_ble_eq_true rfl, Nat.le_of_ble_eq_true rfl⟩ (fun _ H locs _ hP hD hS => ?_)
      refine W.eq (g2 := F0 m 24 ls [.int (iI (-1000001))]) rfl ?_
      exact kend (((-1000001), T, K, ik, SB, SS, SN, tn, TB, (bmp 0 F)), V, jc) hP hS rfl (if_neg (by omega)).symm dX4_chews_24
theorem ykSX4_talks : yX4_talks.cls ≠ "java/lang/invoke/MethodHandle" ∧ yX4_talks.cls ≠ "java/lang/invoke/VarHandle" ∧ (parseMethodDescriptor yX4_talks.desc).map (fun d => d.parameters.length) = some 2 := by decide +kernel
theorem ykVX4_talks : yX4_talks.cls = RX4 ∧ yX4_talks.cls ≠ "java/lang/invoke/MethodHandle" ∧ yX4_talks.cls ≠ "java/lang/invoke/VarHandle" ∧ (parseMethodDescriptor yX4_talks.desc).map (fun d => d.parameters.length) = some 2 := ⟨rfl, ykSX4_talks⟩
set_option maxRecDepth 20000 in
theorem iT_X4_talks_X4 : ∀ w ∈ u_ws RX4 TX4 7, w ∈ wsX4_talks := by decide +kernel
set_option maxRecDepth 20000 in
theorem iT_X4_talks_X2 : ∀ w ∈ u_ws RX2 TX2 12, w ∈ wsX4_talks := by decide +kernel
set_option maxHeartbeats 4000000 in
set_option maxRecDepth 100000 in
theorem kX4_talks {l : Launch} {D : va_G} {cI cB : ClassId} (x f : Nat) (q kq vq h g : Nat → Nat) (T K : Tb) (ik : Int) (SB SS SN : Nat → Int) (tn : Int) (TB F : Nat → Int) (V : Tb) (jc : Nat → Int) (sp t : Int) (B : Int) (hG : GI B T K ik SB SS SN tn TB F) (hB : B ≤ 40000) (h_sp : rI sp) (h_t : rI t) : Ct l yX4_talks wsX4_talks 2 44 D [(cI, .int), (cB, .byte)] [.ref x, .int (iI sp), .int (iI t)] (wC cI cB x f q kq vq h g (T, K, ik, SB, SS, SN, tn, TB, F) V jc) (S := (Int × Gs) × Tb × (Nat → Int)) (fun u => some (.int (iI u.1.1))) (fun u => u.1 = m_talks sp t T K ik SB SS SN tn TB F) (fun u => wC cI cB x f q kq vq h g u.1.2 u.2.1 u.2.2) := by
  refine CtI.of (cc := cX4_talks) (maxL := 3) (by decide +kernel) rfl (Nat.le_of_ble_eq_true rfl) ?_
  intro pg e s m args below meth c Q A hx hb hml hts hown hP hK hD hS ls hl kend
  have hown : s.vm.findClass RX4 = some m.cls := hown
  have hl : lv_has ls 3 [(0, .ref x), (1, .int (iI sp)), (2, .int (iI t))] := hl
  obtain ⟨hI, hIK, hik, hSB, hSS, hSN, htn, hTB, hF⟩ := id hG
  have hn := Inv_n hI
  have hdy := Inv_d hI
  have hP : va_P D vwCl (wObj x f q kq vq h g ik ++ (wTab cI q T (jc 0) ++ (wTab cI kq K (jc 1) ++ (wTab cI vq V (jc 2) ++ (wSh cI h SB SS SN ++ (wTp cB g tn TB jc ++ (wA cI f 7 F))))))) s.heap := hP
  have hD : va_D A (wObj x f q kq vq h g ik ++ (wTab cI q T (jc 0) ++ (wTab cI kq K (jc 1) ++ (wTab cI vq V (jc 2) ++ (wSh cI h SB SS SN ++ (wTp cB g tn TB jc ++ (wA cI f 7 F))))))) := hD
  refine lv_aload_n hx hb dX4_talks_0 rfl (lv_at hl 0 rfl) ?_
  refine va_get (D := D) (ci := 3) (v := .ref (q 0)) (C := RX4) (T := TX4) (N := 7) hx hb hts (iT_X4_talks_X4) hown hK hP 0 rfl rfl 0 (by decide) (hts (.fieldLink RX4 10 "WordSupper" "table" "LWordSupper$Table;") (by decide +kernel)) (fun _ h9 => h9) rfl dX4_talks_1 ?_
  refine lv_iload_n hx hb dX4_talks_4 rfl (lv_at hl 1 rfl) ?_
  refine x_callV (As := [.int (iI sp)]) (rest := []) ⟨hx, hb, hml, hown, hts⟩ (kX2_isSeat q T (jc 0) sp (by omega) (by omega)) (cwV 1 hts gX4_talks_X2_isSeat rfl rfl rfl ykVX2_isSeat ⟨Nat.le_of_ble_eq_true rfl, Nat.le_of_ble_eq_true rfl⟩) hP hK hD hS 1 1 rfl rfl rfl [1, 2, 3, 4, 5, 6, 7, 8] rfl (by decide) (fun _ => rfl) (fun _ => wObj x f q kq vq h g ik ++ (wTab cI q T (jc 0) ++ (wTab cI kq K (jc 1) ++ (wTab cI vq V (jc 2) ++ (wSh cI h SB SS SN ++ (wTp cB g tn TB jc ++ (wA cI f 7 F))))))) (fun _ => rfl) rfl hl.1 rfl (Nat.le_of_ble_eq_true rfl) dX4_talks_5 ⟨Nat.le_of_ble_eq_true rfl, Nat.le_of_ble_eq_true rfl⟩ (fun _ H locs _ hP hD hS => ?_)
  refine W.eq (g2 := F0 m 8 ls [.int (iI (b2 (decide (0 ≤ sp ∧ sp < T 0))))]) rfl ?_
  refine x_ifb_eq (tgt := 18) hx hb dX4_talks_8 (by decide) (fun c_8 => ?_) (fun c_8 => ?_)
  · refine lv_aload_n hx hb dX4_talks_18 rfl (lv_at hl 0 rfl) ?_
    refine x_ldc hx hb (-1000001) rfl hown (hts (.constant RX4 44 (-1000001)) (by decide +kernel)) dX4_talks_19 ?_
    refine x_callV (As := [.int (iI (-1000001))]) (rest := []) ⟨hx, hb, hml, hown, hts⟩ (kX4_finding x f q kq vq h g ik F (-1000001) 0 (by omega) (by omega)) (cwV 1 hts gX4_talks_X4_finding rfl rfl rfl ykVX4_finding ⟨Nat.le_of_ble_eq_true rfl, Nat.le_of_ble_eq_true rfl⟩) hP hK hD hS 0 3 rfl rfl rfl [0, 31] rfl (by decide) (fun _ => rfl) (fun _ => wObj x f q kq vq h g ik ++ (wTab cI q T (jc 0) ++ (wTab cI kq K (jc 1) ++ (wTab cI vq V (jc 2) ++ (wSh cI h SB SS SN ++ (wTp cB g tn TB jc ++ (wA cI f 7 (bmp 0 F)))))))) (fun _ => rfl) rfl hl.1 rfl (Nat.le_of_ble_eq_true rfl) dX4_talks_21 ⟨Nat.le_of_ble_eq_true rfl, Nat.le_of_ble_eq_true rfl⟩ (fun _ H locs _ hP hD hS => ?_)
    refine W.eq (g2 := F0 m 24 ls [.int (iI (-1000001))]) rfl ?_
    exact kend (((-1000001), T, K, ik, SB, SS, SN, tn, TB, (bmp 0 F)), V, jc) hP hS rfl (if_neg (by omega)).symm dX4_talks_24
  · refine lv_iload_n hx hb dX4_talks_11 rfl (lv_at hl 2 rfl) ?_
    refine x_callS (As := [.int (iI t)]) (rest := []) ⟨hx, hb, hml, hown, hts⟩ (kX4_isTaste t (by omega)) (va_cwS 1 hts gX4_talks_X4_isTaste rfl rfl rfl ykSX4_isTaste ⟨Nat.le_of_ble_eq_true rfl, Nat.le_of_ble_eq_true rfl⟩) hP hK hD hS [] rfl (by decide) (fun _ => rfl) (fun _ => wObj x f q kq vq h g ik ++ (wTab cI q T (jc 0) ++ (wTab cI kq K (jc 1) ++ (wTab cI vq V (jc 2) ++ (wSh cI h SB SS SN ++ (wTp cB g tn TB jc ++ (wA cI f 7 F))))))) (fun _ => rfl) rfl hl.1 rfl (Nat.le_of_ble_eq_true rfl) dX4_talks_12 ⟨Nat.le_of_ble_eq_true rfl, Nat.le_of_ble_eq_true rfl⟩ (fun _ H locs _ hP hD hS => ?_)
    refine W.eq (g2 := F0 m 15 ls [.int (iI (b2 (decide (0 ≤ t ∧ t ≤ 5))))]) rfl ?_
    refine x_ifb_ne (tgt := 25) hx hb dX4_talks_15 (by decide) (fun c_15 => ?_) (fun c_15 => ?_)
    · obtain ⟨p0, rfl⟩ : ∃ p0 : Nat, sp = (p0 : Int) := ⟨sp.toNat, by omega⟩
      obtain ⟨t0, rfl⟩ : ∃ t0 : Nat, t = (t0 : Int) := ⟨t.toNat, by omega⟩
      have hkd := Inv_k (p := p0) hI (by omega)
      refine lv_aload_n hx hb dX4_talks_25 rfl (lv_at hl 0 rfl) ?_
      refine va_get (D := D) (ci := 3) (v := .ref (q 0)) (C := RX4) (T := TX4) (N := 7) hx hb hts (iT_X4_talks_X4) hown hK hP 0 rfl rfl 0 (by decide) (hts (.fieldLink RX4 10 "WordSupper" "table" "LWordSupper$Table;") (by decide +kernel)) (fun _ h9 => h9) rfl dX4_talks_26 ?_
      refine va_get (D := D) (ci := 1) (v := .ref (q 2)) (C := RX2) (T := TX2) (N := 12) hx hb hts (iT_X4_talks_X2) hown hK hP 1 rfl rfl 6 (by decide) (hts (.fieldLink RX4 81 "WordSupper$Table" "kind" "[I") (by decide +kernel)) (fun _ h9 => h9) rfl dX4_talks_29 ?_
      refine lv_iload_n hx hb dX4_talks_32 rfl (lv_at hl 1 rfl) ?_
      refine x_iald hx hb hK hP 3 0 rfl rfl p0 rfl (by omega) (by decide) (T (cx p0 0)) (gd_at _ (by omega)) dX4_talks_33 ?_
      refine lv_iload_n hx hb dX4_talks_34 rfl (lv_at hl 2 rfl) ?_
      refine lv_aload_n hx hb dX4_talks_35 rfl (lv_at hl 0 rfl) ?_
      refine va_get (D := D) (ci := 3) (v := .ref (q 0)) (C := RX4) (T := TX4) (N := 7) hx hb hts (iT_X4_talks_X4) hown hK hP 0 rfl rfl 0 (by decide) (hts (.fieldLink RX4 10 "WordSupper" "table" "LWordSupper$Table;") (by decide +kernel)) (fun _ h9 => h9) rfl dX4_talks_36 ?_
      refine va_get (D := D) (ci := 1) (v := .int (iI (T 1))) (C := RX2) (T := TX2) (N := 12) hx hb hts (iT_X4_talks_X2) hown hK hP 1 rfl rfl 0 (by decide) (hts (.fieldLink RX4 110 "WordSupper$Table" "day" "I") (by decide +kernel)) (fun _ h9 => h9) rfl dX4_talks_39 ?_
      refine x_callS (As := [.int (iI (T (cx p0 0))), .int (iI ((t0 : Nat) : Int)), .int (iI (T 1))]) (rest := []) ⟨hx, hb, hml, hown, hts⟩ (kX0_words (T (cx p0 0)) t0 (T 1) (by omega) (by omega) (by omega)) (va_cwS 3 hts gX4_talks_X0_words rfl rfl rfl ykSX0_words ⟨Nat.le_of_ble_eq_true rfl, Nat.le_of_ble_eq_true rfl⟩) hP hK hD hS [] rfl (by decide) (fun _ => rfl) (fun _ => wObj x f q kq vq h g ik ++ (wTab cI q T (jc 0) ++ (wTab cI kq K (jc 1) ++ (wTab cI vq V (jc 2) ++ (wSh cI h SB SS SN ++ (wTp cB g tn TB jc ++ (wA cI f 7 F))))))) (fun _ => rfl) rfl hl.1 rfl (Nat.le_of_ble_eq_true rfl) dX4_talks_42 ⟨Nat.le_of_ble_eq_true rfl, Nat.le_of_ble_eq_true rfl⟩ (fun _ H locs _ hP hD hS => ?_)
      refine W.eq (g2 := F0 m 45 ls [.int (iI (tkF (T (cx p0 0)) ((t0 : Nat) : Int) (T 1)))]) rfl ?_
      exact kend ((tkF (T (cx p0 0)) ((t0 : Nat) : Int) (T 1), T, K, ik, SB, SS, SN, tn, TB, F), V, jc) hP hS rfl (if_pos (by omega)).symm dX4_talks_45
    · refine lv_aload_n hx hb dX4_talks_18 rfl (lv_at hl 0 rfl) ?_
      refine x_ldc hx hb (-1000001) rfl hown (hts (.constant RX4 44 (-1000001)) (by decide +kernel)) dX4_talks_19 ?_
      refine x_callV (As := [.int (iI (-1000001))]) (rest := []) ⟨hx, hb, hml, hown, hts⟩ (kX4_finding x f q kq vq h g ik F (-1000001) 0 (by omega) (by omega)) (cwV 1 hts gX4_talks_X4_finding rfl rfl rfl ykVX4_finding ⟨Nat.le_of_ble_eq_true rfl, Nat.le_of_ble_eq_true rfl⟩) hP hK hD hS 0 3 rfl rfl rfl [0, 31] rfl (by decide) (fun _ => rfl) (fun _ => wObj x f q kq vq h g ik ++ (wTab cI q T (jc 0) ++ (wTab cI kq K (jc 1) ++ (wTab cI vq V (jc 2) ++ (wSh cI h SB SS SN ++ (wTp cB g tn TB jc ++ (wA cI f 7 (bmp 0 F)))))))) (fun _ => rfl) rfl hl.1 rfl (Nat.le_of_ble_eq_true rfl) dX4_talks_21 ⟨Nat.le_of_ble_eq_true rfl, Nat.le_of_ble_eq_true rfl⟩ (fun _ H locs _ hP hD hS => ?_)
      refine W.eq (g2 := F0 m 24 ls [.int (iI (-1000001))]) rfl ?_
      exact kend (((-1000001), T, K, ik, SB, SS, SN, tn, TB, (bmp 0 F)), V, jc) hP hS rfl (if_neg (by omega)).symm dX4_talks_24
theorem ykSX4_change : yX4_change.cls ≠ "java/lang/invoke/MethodHandle" ∧ yX4_change.cls ≠ "java/lang/invoke/VarHandle" ∧ (parseMethodDescriptor yX4_change.desc).map (fun d => d.parameters.length) = some 3 := by decide +kernel
theorem ykVX4_change : yX4_change.cls = RX4 ∧ yX4_change.cls ≠ "java/lang/invoke/MethodHandle" ∧ yX4_change.cls ≠ "java/lang/invoke/VarHandle" ∧ (parseMethodDescriptor yX4_change.desc).map (fun d => d.parameters.length) = some 3 := ⟨rfl, ykSX4_change⟩
set_option maxRecDepth 20000 in
theorem iT_X4_change_X4 : ∀ w ∈ u_ws RX4 TX4 7, w ∈ wsX4_change := by decide +kernel
set_option maxRecDepth 20000 in
theorem iT_X4_change_X2 : ∀ w ∈ u_ws RX2 TX2 12, w ∈ wsX4_change := by decide +kernel
set_option maxHeartbeats 4000000 in
set_option maxRecDepth 100000 in
theorem kX4_change {l : Launch} {D : va_G} {cI cB : ClassId} (x f : Nat) (q kq vq h g : Nat → Nat) (T K : Tb) (ik : Int) (SB SS SN : Nat → Int) (tn : Int) (TB F : Nat → Int) (V : Tb) (jc : Nat → Int) (sp wh v : Int) (B : Int) (hG : GI B T K ik SB SS SN tn TB F) (hB : B ≤ 40000) (h_sp : rI sp) (h_wh : rI wh) (h_v : rI v) : Ct l yX4_change wsX4_change 3 65 D [(cI, .int), (cB, .byte)] [.ref x, .int (iI sp), .int (iI wh), .int (iI v)] (wC cI cB x f q kq vq h g (T, K, ik, SB, SS, SN, tn, TB, F) V jc) (S := (Int × Gs) × Tb × (Nat → Int)) (fun u => some (.int (iI u.1.1))) (fun u => u.1 = m_change sp wh v T K ik SB SS SN tn TB F) (fun u => wC cI cB x f q kq vq h g u.1.2 u.2.1 u.2.2) := by
  refine CtI.of (cc := cX4_change) (maxL := 4) (by decide +kernel) rfl (Nat.le_of_ble_eq_true rfl) ?_
  intro pg e s m args below meth c Q A hx hb hml hts hown hP hK hD hS ls hl kend
  have hown : s.vm.findClass RX4 = some m.cls := hown
  have hl : lv_has ls 4 [(0, .ref x), (1, .int (iI sp)), (2, .int (iI wh)), (3, .int (iI v))] := hl
  obtain ⟨hI, hIK, hik, hSB, hSS, hSN, htn, hTB, hF⟩ := id hG
  have hn := Inv_n hI
  have hdy := Inv_d hI
  have hP : va_P D vwCl (wObj x f q kq vq h g ik ++ (wTab cI q T (jc 0) ++ (wTab cI kq K (jc 1) ++ (wTab cI vq V (jc 2) ++ (wSh cI h SB SS SN ++ (wTp cB g tn TB jc ++ (wA cI f 7 F))))))) s.heap := hP
  have hD : va_D A (wObj x f q kq vq h g ik ++ (wTab cI q T (jc 0) ++ (wTab cI kq K (jc 1) ++ (wTab cI vq V (jc 2) ++ (wSh cI h SB SS SN ++ (wTp cB g tn TB jc ++ (wA cI f 7 F))))))) := hD
  refine lv_aload_n hx hb dX4_change_0 rfl (lv_at hl 0 rfl) ?_
  refine va_get (D := D) (ci := 3) (v := .ref (q 0)) (C := RX4) (T := TX4) (N := 7) hx hb hts (iT_X4_change_X4) hown hK hP 0 rfl rfl 0 (by decide) (hts (.fieldLink RX4 10 "WordSupper" "table" "LWordSupper$Table;") (by decide +kernel)) (fun _ h9 => h9) rfl dX4_change_1 ?_
  refine lv_iload_n hx hb dX4_change_4 rfl (lv_at hl 1 rfl) ?_
  refine x_callV (As := [.int (iI sp)]) (rest := []) ⟨hx, hb, hml, hown, hts⟩ (kX2_isSeat q T (jc 0) sp (by omega) (by omega)) (cwV 1 hts gX4_change_X2_isSeat rfl rfl rfl ykVX2_isSeat ⟨Nat.le_of_ble_eq_true rfl, Nat.le_of_ble_eq_true rfl⟩) hP hK hD hS 1 1 rfl rfl rfl [1, 2, 3, 4, 5, 6, 7, 8] rfl (by decide) (fun _ => rfl) (fun _ => wObj x f q kq vq h g ik ++ (wTab cI q T (jc 0) ++ (wTab cI kq K (jc 1) ++ (wTab cI vq V (jc 2) ++ (wSh cI h SB SS SN ++ (wTp cB g tn TB jc ++ (wA cI f 7 F))))))) (fun _ => rfl) rfl hl.1 rfl (Nat.le_of_ble_eq_true rfl) dX4_change_5 ⟨Nat.le_of_ble_eq_true rfl, Nat.le_of_ble_eq_true rfl⟩ (fun _ H locs _ hP hD hS => ?_)
  refine W.eq (g2 := F0 m 8 ls [.int (iI (b2 (decide (0 ≤ sp ∧ sp < T 0))))]) rfl ?_
  refine x_ifb_eq (tgt := 21) hx hb dX4_change_8 (by decide) (fun c_8 => ?_) (fun c_8 => ?_)
  · refine lv_aload_n hx hb dX4_change_21 rfl (lv_at hl 0 rfl) ?_
    refine x_ldc hx hb (-1000001) rfl hown (hts (.constant RX4 44 (-1000001)) (by decide +kernel)) dX4_change_22 ?_
    refine x_callV (As := [.int (iI (-1000001))]) (rest := []) ⟨hx, hb, hml, hown, hts⟩ (kX4_finding x f q kq vq h g ik F (-1000001) 0 (by omega) (by omega)) (cwV 1 hts gX4_change_X4_finding rfl rfl rfl ykVX4_finding ⟨Nat.le_of_ble_eq_true rfl, Nat.le_of_ble_eq_true rfl⟩) hP hK hD hS 0 3 rfl rfl rfl [0, 31] rfl (by decide) (fun _ => rfl) (fun _ => wObj x f q kq vq h g ik ++ (wTab cI q T (jc 0) ++ (wTab cI kq K (jc 1) ++ (wTab cI vq V (jc 2) ++ (wSh cI h SB SS SN ++ (wTp cB g tn TB jc ++ (wA cI f 7 (bmp 0 F)))))))) (fun _ => rfl) rfl hl.1 rfl (Nat.le_of_ble_eq_true rfl) dX4_change_24 ⟨Nat.le_of_ble_eq_true rfl, Nat.le_of_ble_eq_true rfl⟩ (fun _ H locs _ hP hD hS => ?_)
    refine W.eq (g2 := F0 m 27 ls [.int (iI (-1000001))]) rfl ?_
    exact kend (((-1000001), T, K, ik, SB, SS, SN, tn, TB, (bmp 0 F)), V, jc) hP hS rfl (if_neg (fun q9 => by first | omega | exact c_18 q9.2)).symm dX4_change_27
  · refine lv_aload_n hx hb dX4_change_11 rfl (lv_at hl 0 rfl) ?_
    refine lv_iload_n hx hb dX4_change_12 rfl (lv_at hl 1 rfl) ?_
    refine lv_iload_n hx hb dX4_change_13 rfl (lv_at hl 2 rfl) ?_
    refine lv_iload_n hx hb dX4_change_14 rfl (lv_at hl 3 rfl) ?_
    refine x_callV (As := [.int (iI sp), .int (iI wh), .int (iI v)]) (rest := []) ⟨hx, hb, hml, hown, hts⟩ (kX4_canBecome x f q kq vq h g ik T (jc 0) sp wh v (by omega) (by omega) (by omega) (by omega)) (cwV 3 hts gX4_change_X4_canBecome rfl rfl rfl ykVX4_canBecome ⟨Nat.le_of_ble_eq_true rfl, Nat.le_of_ble_eq_true rfl⟩) hP hK hD hS 0 3 rfl rfl rfl [0, 1, 2, 3, 4, 5, 6, 7, 8] rfl (by decide) (fun _ => rfl) (fun _ => wObj x f q kq vq h g ik ++ (wTab cI q T (jc 0) ++ (wTab cI kq K (jc 1) ++ (wTab cI vq V (jc 2) ++ (wSh cI h SB SS SN ++ (wTp cB g tn TB jc ++ (wA cI f 7 F))))))) (fun _ => rfl) rfl hl.1 rfl (Nat.le_of_ble_eq_true rfl) dX4_change_15 ⟨Nat.le_of_ble_eq_true rfl, Nat.le_of_ble_eq_true rfl⟩ (fun _ H locs _ hP hD hS => ?_)
    refine W.eq (g2 := F0 m 18 ls [.int (iI (b2 (decide (mayB T sp wh v = true))))]) rfl ?_
    refine x_ifb_ne (tgt := 28) hx hb dX4_change_18 (by decide) (fun c_18 => ?_) (fun c_18 => ?_)
    · obtain ⟨p0, rfl⟩ : ∃ p0 : Nat, sp = (p0 : Int) := ⟨sp.toNat, by omega⟩
      refine lv_iload_n hx hb dX4_change_28 rfl (lv_at hl 2 rfl) ?_
      rcases x_sw wh 0 2 with c_29 | c_29
      · refine lv_tableOut (tgt := 95) hx hb dX4_change_29 (by rw [iI_to (by omega)]; exact c_29) (by decide) ?_
        obtain rfl : wh = 3 := by rw [mayB_i] at c_18; omega
        refine lv_aload_n hx hb dX4_change_95 rfl (lv_at hl 0 rfl) ?_
        refine va_get (D := D) (ci := 3) (v := .ref (q 0)) (C := RX4) (T := TX4) (N := 7) hx hb hts (iT_X4_change_X4) hown hK hP 0 rfl rfl 0 (by decide) (hts (.fieldLink RX4 10 "WordSupper" "table" "LWordSupper$Table;") (by decide +kernel)) (fun _ h9 => h9) rfl dX4_change_96 ?_
        refine va_get (D := D) (ci := 1) (v := .ref (q 5)) (C := RX2) (T := TX2) (N := 12) hx hb hts (iT_X4_change_X2) hown hK hP 1 rfl rfl 9 (by decide) (hts (.fieldLink RX4 94 "WordSupper$Table" "ate" "[I") (by decide +kernel)) (fun _ h9 => h9) rfl dX4_change_99 ?_
        refine lv_iload_n hx hb dX4_change_102 rfl (lv_at hl 1 rfl) ?_
        refine lv_iload_n hx hb dX4_change_103 rfl (lv_at hl 3 rfl) ?_
        refine x_callS (As := [.ref (q 5), .int (iI ((p0 : Nat) : Int)), .int (iI v)]) (rest := []) ⟨hx, hb, hml, hown, hts⟩ (kX4_exchange (q 5) 8 (fun i => T (cx i 3)) p0 v (by omega) (by decide)) (va_cwS 3 hts gX4_change_X4_exchange rfl rfl rfl ykSX4_exchange ⟨Nat.le_of_ble_eq_true rfl, Nat.le_of_ble_eq_true rfl⟩) hP hK hD hS [6] rfl (by decide) (fun _ => rfl) (fun _ => wObj x f q kq vq h g ik ++ (wTab cI q (va_up T (cx p0 3) v) (jc 0) ++ (wTab cI kq K (jc 1) ++ (wTab cI vq V (jc 2) ++ (wSh cI h SB SS SN ++ (wTp cB g tn TB jc ++ (wA cI f 7 F))))))) (fun _ => by rw [← wT_ate cI q T (jc 0) v p0 (by omega), gd_up _ _ (by omega)]; rfl) rfl hl.1 rfl (Nat.le_of_ble_eq_true rfl) dX4_change_104 ⟨Nat.le_of_ble_eq_true rfl, Nat.le_of_ble_eq_true rfl⟩ (fun _ H locs _ hP hD hS => ?_)
        refine W.eq (g2 := F0 m 107 ls [.int (iI ((fun i => T (cx i 3)) p0))]) rfl ?_
        refine x_topi (T (cx p0 3)) rfl ?_
        exact kend ((T (cx p0 3), va_up T (cx p0 3) v, K, ik, SB, SS, SN, tn, TB, F), V, jc) hP hS rfl (if_pos ⟨by omega, c_18⟩).symm dX4_change_107
      · obtain ⟨c_29a, c_29b⟩ := c_29
        by_cases e_29 : wh = 0
        · refine lv_tableIn (off := 27) (tgt := 56) hx hb dX4_change_29 (by rw [iI_to (by omega)]; omega) (by rw [iI_to (by omega)]; omega) (by rw [iI_to (by omega), e_29]; rfl) (by decide) ?_
          subst e_29
          refine lv_aload_n hx hb dX4_change_56 rfl (lv_at hl 0 rfl) ?_
          refine va_get (D := D) (ci := 3) (v := .ref (q 0)) (C := RX4) (T := TX4) (N := 7) hx hb hts (iT_X4_change_X4) hown hK hP 0 rfl rfl 0 (by decide) (hts (.fieldLink RX4 10 "WordSupper" "table" "LWordSupper$Table;") (by decide +kernel)) (fun _ h9 => h9) rfl dX4_change_57 ?_
          refine va_get (D := D) (ci := 1) (v := .ref (q 2)) (C := RX2) (T := TX2) (N := 12) hx hb hts (iT_X4_change_X2) hown hK hP 1 rfl rfl 6 (by decide) (hts (.fieldLink RX4 81 "WordSupper$Table" "kind" "[I") (by decide +kernel)) (fun _ h9 => h9) rfl dX4_change_60 ?_
          refine lv_iload_n hx hb dX4_change_63 rfl (lv_at hl 1 rfl) ?_
          refine lv_iload_n hx hb dX4_change_64 rfl (lv_at hl 3 rfl) ?_
          refine x_callS (As := [.ref (q 2), .int (iI ((p0 : Nat) : Int)), .int (iI v)]) (rest := []) ⟨hx, hb, hml, hown, hts⟩ (kX4_exchange (q 2) 8 (fun i => T (cx i 0)) p0 v (by omega) (by decide)) (va_cwS 3 hts gX4_change_X4_exchange rfl rfl rfl ykSX4_exchange ⟨Nat.le_of_ble_eq_true rfl, Nat.le_of_ble_eq_true rfl⟩) hP hK hD hS [3] rfl (by decide) (fun _ => rfl) (fun _ => wObj x f q kq vq h g ik ++ (wTab cI q (va_up T (cx p0 0) v) (jc 0) ++ (wTab cI kq K (jc 1) ++ (wTab cI vq V (jc 2) ++ (wSh cI h SB SS SN ++ (wTp cB g tn TB jc ++ (wA cI f 7 F))))))) (fun _ => by rw [← wT_kind cI q T (jc 0) v p0 (by omega), gd_up _ _ (by omega)]; rfl) rfl hl.1 rfl (Nat.le_of_ble_eq_true rfl) dX4_change_65 ⟨Nat.le_of_ble_eq_true rfl, Nat.le_of_ble_eq_true rfl⟩ (fun _ H locs _ hP hD hS => ?_)
          refine W.eq (g2 := F0 m 68 ls [.int (iI ((fun i => T (cx i 0)) p0))]) rfl ?_
          refine x_topi (T (cx p0 0)) rfl ?_
          exact kend ((T (cx p0 0), va_up T (cx p0 0) v, K, ik, SB, SS, SN, tn, TB, F), V, jc) hP hS rfl (if_pos ⟨by omega, c_18⟩).symm dX4_change_68
        by_cases e_29 : wh = 1
        · refine lv_tableIn (off := 40) (tgt := 69) hx hb dX4_change_29 (by rw [iI_to (by omega)]; omega) (by rw [iI_to (by omega)]; omega) (by rw [iI_to (by omega), e_29]; rfl) (by decide) ?_
          subst e_29
          refine lv_aload_n hx hb dX4_change_69 rfl (lv_at hl 0 rfl) ?_
          refine va_get (D := D) (ci := 3) (v := .ref (q 0)) (C := RX4) (T := TX4) (N := 7) hx hb hts (iT_X4_change_X4) hown hK hP 0 rfl rfl 0 (by decide) (hts (.fieldLink RX4 10 "WordSupper" "table" "LWordSupper$Table;") (by decide +kernel)) (fun _ h9 => h9) rfl dX4_change_70 ?_
          refine va_get (D := D) (ci := 1) (v := .ref (q 3)) (C := RX2) (T := TX2) (N := 12) hx hb hts (iT_X4_change_X2) hown hK hP 1 rfl rfl 7 (by decide) (hts (.fieldLink RX4 88 "WordSupper$Table" "loves" "[I") (by decide +kernel)) (fun _ h9 => h9) rfl dX4_change_73 ?_
          refine lv_iload_n hx hb dX4_change_76 rfl (lv_at hl 1 rfl) ?_
          refine lv_iload_n hx hb dX4_change_77 rfl (lv_at hl 3 rfl) ?_
          refine x_callS (As := [.ref (q 3), .int (iI ((p0 : Nat) : Int)), .int (iI v)]) (rest := []) ⟨hx, hb, hml, hown, hts⟩ (kX4_exchange (q 3) 8 (fun i => T (cx i 1)) p0 v (by omega) (by decide)) (va_cwS 3 hts gX4_change_X4_exchange rfl rfl rfl ykSX4_exchange ⟨Nat.le_of_ble_eq_true rfl, Nat.le_of_ble_eq_true rfl⟩) hP hK hD hS [4] rfl (by decide) (fun _ => rfl) (fun _ => wObj x f q kq vq h g ik ++ (wTab cI q (va_up T (cx p0 1) v) (jc 0) ++ (wTab cI kq K (jc 1) ++ (wTab cI vq V (jc 2) ++ (wSh cI h SB SS SN ++ (wTp cB g tn TB jc ++ (wA cI f 7 F))))))) (fun _ => by rw [← wT_loves cI q T (jc 0) v p0 (by omega), gd_up _ _ (by omega)]; rfl) rfl hl.1 rfl (Nat.le_of_ble_eq_true rfl) dX4_change_78 ⟨Nat.le_of_ble_eq_true rfl, Nat.le_of_ble_eq_true rfl⟩ (fun _ H locs _ hP hD hS => ?_)
          refine W.eq (g2 := F0 m 81 ls [.int (iI ((fun i => T (cx i 1)) p0))]) rfl ?_
          refine x_topi (T (cx p0 1)) rfl ?_
          exact kend ((T (cx p0 1), va_up T (cx p0 1) v, K, ik, SB, SS, SN, tn, TB, F), V, jc) hP hS rfl (if_pos ⟨by omega, c_18⟩).symm dX4_change_81
        have e_29 : wh = 2 := by omega
        refine lv_tableIn (off := 53) (tgt := 82) hx hb dX4_change_29 (by rw [iI_to (by omega)]; omega) (by rw [iI_to (by omega)]; omega) (by rw [iI_to (by omega), e_29]; rfl) (by decide) ?_
        subst e_29
        refine lv_aload_n hx hb dX4_change_82 rfl (lv_at hl 0 rfl) ?_
        refine va_get (D := D) (ci := 3) (v := .ref (q 0)) (C := RX4) (T := TX4) (N := 7) hx hb hts (iT_X4_change_X4) hown hK hP 0 rfl rfl 0 (by decide) (hts (.fieldLink RX4 10 "WordSupper" "table" "LWordSupper$Table;") (by decide +kernel)) (fun _ h9 => h9) rfl dX4_change_83 ?_
        refine va_get (D := D) (ci := 1) (v := .ref (q 4)) (C := RX2) (T := TX2) (N := 12) hx hb hts (iT_X4_change_X2) hown hK hP 1 rfl rfl 8 (by decide) (hts (.fieldLink RX4 91 "WordSupper$Table" "fat" "[I") (by decide +kernel)) (fun _ h9 => h9) rfl dX4_change_86 ?_
        refine lv_iload_n hx hb dX4_change_89 rfl (lv_at hl 1 rfl) ?_
        refine lv_iload_n hx hb dX4_change_90 rfl (lv_at hl 3 rfl) ?_
        refine x_callS (As := [.ref (q 4), .int (iI ((p0 : Nat) : Int)), .int (iI v)]) (rest := []) ⟨hx, hb, hml, hown, hts⟩ (kX4_exchange (q 4) 8 (fun i => T (cx i 2)) p0 v (by omega) (by decide)) (va_cwS 3 hts gX4_change_X4_exchange rfl rfl rfl ykSX4_exchange ⟨Nat.le_of_ble_eq_true rfl, Nat.le_of_ble_eq_true rfl⟩) hP hK hD hS [5] rfl (by decide) (fun _ => rfl) (fun _ => wObj x f q kq vq h g ik ++ (wTab cI q (va_up T (cx p0 2) v) (jc 0) ++ (wTab cI kq K (jc 1) ++ (wTab cI vq V (jc 2) ++ (wSh cI h SB SS SN ++ (wTp cB g tn TB jc ++ (wA cI f 7 F))))))) (fun _ => by rw [← wT_fat cI q T (jc 0) v p0 (by omega), gd_up _ _ (by omega)]; rfl) rfl hl.1 rfl (Nat.le_of_ble_eq_true rfl) dX4_change_91 ⟨Nat.le_of_ble_eq_true rfl, Nat.le_of_ble_eq_true rfl⟩ (fun _ H locs _ hP hD hS => ?_)
        refine W.eq (g2 := F0 m 94 ls [.int (iI ((fun i => T (cx i 2)) p0))]) rfl ?_
        refine x_topi (T (cx p0 2)) rfl ?_
        exact kend ((T (cx p0 2), va_up T (cx p0 2) v, K, ik, SB, SS, SN, tn, TB, F), V, jc) hP hS rfl (if_pos ⟨by omega, c_18⟩).symm dX4_change_94
    · refine lv_aload_n hx hb dX4_change_21 rfl (lv_at hl 0 rfl) ?_
      refine x_ldc hx hb (-1000001) rfl hown (hts (.constant RX4 44 (-1000001)) (by decide +kernel)) dX4_change_22 ?_
      refine x_callV (As := [.int (iI (-1000001))]) (rest := []) ⟨hx, hb, hml, hown, hts⟩ (kX4_finding x f q kq vq h g ik F (-1000001) 0 (by omega) (by omega)) (cwV 1 hts gX4_change_X4_finding rfl rfl rfl ykVX4_finding ⟨Nat.le_of_ble_eq_true rfl, Nat.le_of_ble_eq_true rfl⟩) hP hK hD hS 0 3 rfl rfl rfl [0, 31] rfl (by decide) (fun _ => rfl) (fun _ => wObj x f q kq vq h g ik ++ (wTab cI q T (jc 0) ++ (wTab cI kq K (jc 1) ++ (wTab cI vq V (jc 2) ++ (wSh cI h SB SS SN ++ (wTp cB g tn TB jc ++ (wA cI f 7 (bmp 0 F)))))))) (fun _ => rfl) rfl hl.1 rfl (Nat.le_of_ble_eq_true rfl) dX4_change_24 ⟨Nat.le_of_ble_eq_true rfl, Nat.le_of_ble_eq_true rfl⟩ (fun _ H locs _ hP hD hS => ?_)
      refine W.eq (g2 := F0 m 27 ls [.int (iI (-1000001))]) rfl ?_
      exact kend (((-1000001), T, K, ik, SB, SS, SN, tn, TB, (bmp 0 F)), V, jc) hP hS rfl (if_neg (fun q9 => by first | omega | exact c_18 q9.2)).symm dX4_change_27
