theorem ykSX3_add : yX3_add.cls ≠ "java/lang/invoke/MethodHandle" ∧ yX3_add.cls ≠ "java/lang/invoke/VarHandle" ∧ (parseMethodDescriptor yX3_add.desc).map (fun d => d.parameters.length) = some 1 := by decide +kernel
theorem ykVX3_add : yX3_add.cls = RX3 ∧ yX3_add.cls ≠ "java/lang/invoke/MethodHandle" ∧ yX3_add.cls ≠ "java/lang/invoke/VarHandle" ∧ (parseMethodDescriptor yX3_add.desc).map (fun d => d.parameters.length) = some 1 := ⟨rfl, ykSX3_add⟩
set_option maxRecDepth 20000 in
theorem iT_X3_add_X3 : ∀ w ∈ u_ws RX3 TX3 6, w ∈ wsX3_add := by decide +kernel
set_option maxHeartbeats 4000000 in
set_option maxRecDepth 100000 in
theorem kX3_add {l : Launch} {D : va_G} {cI cB : ClassId} (g : Nat → Nat) (tn : Int) (TB : Nat → Int) (j : Nat → Int) (v : Int) (m0 : Nat) (w0 : Int) (hm : tn = (m0 : Int)) (hm9 : m0 < 120) (hv : byteI v = v) (hw : sgB w0 = v) : Ct l yX3_add wsX3_add 0 0 D [(cI, .int), (cB, .byte)] [.ref (g 0), .int (iI v)] (wTp cB g tn TB j) (S := Unit) (fun _ => none) (fun _ => True) (fun _ => wTp cB g (((m0 : Nat) : Int) + 1) (va_up TB m0 w0) j) := by
  refine CtV.of (cc := cX3_add) (maxL := 2) (by decide +kernel) rfl (Nat.le_of_ble_eq_true rfl) ?_
  intro pg e s m args below meth c Q A hx hb hml hts hown hP hK hD hS ls hl kend
  have hown : s.vm.findClass RX3 = some m.cls := hown
  have hl : lv_has ls 2 [(0, .ref (g 0)), (1, .int (iI v))] := hl
  subst hm
  refine lv_aload_n hx hb dX3_add_0 rfl (lv_at hl 0 rfl) ?_
  refine va_get (D := D) (ci := 2) (v := .int (iI ((m0 : Nat) : Int))) (C := RX3) (T := TX3) (N := 6) hx hb hts (iT_X3_add_X3) hown hK hP 0 rfl rfl 0 (by decide) (hts (.fieldLink RX3 15 "WordSupper$Tape" "size" "I") (by decide +kernel)) (fun _ h9 => h9) rfl dX3_add_1 ?_
  refine x_bipush hx hb dX3_add_4 (by decide) ?_
  refine x_icmp_ge (tgt := 29) hx hb (by omega) (by decide) dX3_add_6 (by decide) (fun c_6 => ?_) (fun c_6 => ?_)
  · exfalso; omega
  · refine lv_aload_n hx hb dX3_add_9 rfl (lv_at hl 0 rfl) ?_
    refine va_get (D := D) (ci := 2) (v := .ref (g 1)) (C := RX3) (T := TX3) (N := 6) hx hb hts (iT_X3_add_X3) hown hK hP 0 rfl rfl 1 (by decide) (hts (.fieldLink RX3 11 "WordSupper$Tape" "bytes" "[B") (by decide +kernel)) (fun _ h9 => h9) rfl dX3_add_10 ?_
    refine lv_aload_n hx hb dX3_add_13 rfl (lv_at hl 0 rfl) ?_
    refine va_get (D := D) (ci := 2) (v := .int (iI ((m0 : Nat) : Int))) (C := RX3) (T := TX3) (N := 6) hx hb hts (iT_X3_add_X3) hown hK hP 0 rfl rfl 0 (by decide) (hts (.fieldLink RX3 15 "WordSupper$Tape" "size" "I") (by decide +kernel)) (fun _ h9 => h9) rfl dX3_add_14 ?_
    refine lv_iload_n hx hb dX3_add_17 rfl (lv_at hl 1 rfl) ?_
    refine x_bast hx hb hK hP hD hS 1 1 rfl rfl m0 rfl (by omega) (by decide) hv (wTp cB g ((m0 : Nat) : Int) (va_up TB m0 w0) j) (wTp_up cB g ((m0 : Nat) : Int) TB j v m0 w0 (by omega) (by omega)) dX3_add_18 (fun H locs hP hD hS => ?_)
    refine lv_aload_n hx hb dX3_add_19 rfl (lv_at hl 0 rfl) ?_
    refine lv_dup hx hb dX3_add_20 rfl ?_
    refine va_get (D := D) (ci := 2) (v := .int (iI ((m0 : Nat) : Int))) (C := RX3) (T := TX3) (N := 6) hx hb hts (iT_X3_add_X3) hown hK hP 0 rfl rfl 0 (by decide) (hts (.fieldLink RX3 15 "WordSupper$Tape" "size" "I") (by decide +kernel)) (fun _ h9 => h9) rfl dX3_add_21 ?_
    refine x_iconst hx hb dX3_add_24 ?_
    refine x_iadd hx hb dX3_add_25 ?_
    refine x_putI (D := D) (ty := .int) (C := RX3) (T := TX3) (N := 6) hx hb 2 hts (iT_X3_add_X3) tyX3 tyX3_ok nmX3 hown hK hP hD hS 0 rfl rfl 0 (by decide) (hts (.fieldLink RX3 15 "WordSupper$Tape" "size" "I") (by decide +kernel)) (fun _ h9 => h9) rfl (by decide +kernel) rfl rfl (Nat.le_of_ble_eq_true rfl) (wTp cB g (((m0 : Nat) : Int) + 1) (va_up TB m0 w0) j) (rfl) dX3_add_26 (fun H locs hP hD hS => ?_)
    exact kend () hP hS rfl trivial dX3_add_29
theorem ykSX4_seed : yX4_seed.cls ≠ "java/lang/invoke/MethodHandle" ∧ yX4_seed.cls ≠ "java/lang/invoke/VarHandle" ∧ (parseMethodDescriptor yX4_seed.desc).map (fun d => d.parameters.length) = some 1 := by decide +kernel
theorem ykVX4_seed : yX4_seed.cls = RX4 ∧ yX4_seed.cls ≠ "java/lang/invoke/MethodHandle" ∧ yX4_seed.cls ≠ "java/lang/invoke/VarHandle" ∧ (parseMethodDescriptor yX4_seed.desc).map (fun d => d.parameters.length) = some 1 := ⟨rfl, ykSX4_seed⟩
set_option maxRecDepth 20000 in
theorem iT_X4_seed_X4 : ∀ w ∈ u_ws RX4 TX4 7, w ∈ wsX4_seed := by decide +kernel
set_option maxRecDepth 20000 in
theorem iT_X4_seed_X2 : ∀ w ∈ u_ws RX2 TX2 12, w ∈ wsX4_seed := by decide +kernel
set_option maxHeartbeats 4000000 in
set_option maxRecDepth 100000 in
theorem kX4_seed {l : Launch} {D : va_G} {cI cB : ClassId} (x f : Nat) (q kq vq h g : Nat → Nat) (T K : Tb) (ik : Int) (SB SS SN : Nat → Int) (tn : Int) (TB F : Nat → Int) (V : Tb) (jc : Nat → Int) (v : Int) (B : Int) (hG : GI B T K ik SB SS SN tn TB F) (hB : B ≤ 40000) (h_v : rI v) : Ct l yX4_seed wsX4_seed 0 0 D [(cI, .int), (cB, .byte)] [.ref x, .int (iI v)] (wC cI cB x f q kq vq h g (T, K, ik, SB, SS, SN, tn, TB, F) V jc) (S := (Int × Gs) × Tb × (Nat → Int)) (fun u => some (.int (iI u.1.1))) (fun u => u.1 = m_seed v T K ik SB SS SN tn TB F) (fun u => wC cI cB x f q kq vq h g u.1.2 u.2.1 u.2.2) := by
  refine CtI.of (cc := cX4_seed) (maxL := 3) (by decide +kernel) rfl (Nat.le_of_ble_eq_true rfl) ?_
  intro pg e s m args below meth c Q A hx hb hml hts hown hP hK hD hS ls hl kend
  have hown : s.vm.findClass RX4 = some m.cls := hown
  have hl : lv_has ls 3 [(0, .ref x), (1, .int (iI v))] := hl
  obtain ⟨hI, hIK, hik, hSB, hSS, hSN, htn, hTB, hF⟩ := id hG
  have hn := Inv_n hI
  have hdy := Inv_d hI
  have hP : va_P D vwCl (wObj x f q kq vq h g ik ++ (wTab cI q T (jc 0) ++ (wTab cI kq K (jc 1) ++ (wTab cI vq V (jc 2) ++ (wSh cI h SB SS SN ++ (wTp cB g tn TB jc ++ (wA cI f 7 F))))))) s.heap := hP
  have hD : va_D A (wObj x f q kq vq h g ik ++ (wTab cI q T (jc 0) ++ (wTab cI kq K (jc 1) ++ (wTab cI vq V (jc 2) ++ (wSh cI h SB SS SN ++ (wTp cB g tn TB jc ++ (wA cI f 7 F))))))) := hD
  refine lv_aload_n hx hb dX4_seed_0 rfl (lv_at hl 0 rfl) ?_
  refine va_get (D := D) (ci := 3) (v := .ref (q 0)) (C := RX4) (T := TX4) (N := 7) hx hb hts (iT_X4_seed_X4) hown hK hP 0 rfl rfl 0 (by decide) (hts (.fieldLink RX4 10 "WordSupper" "table" "LWordSupper$Table;") (by decide +kernel)) (fun _ h9 => h9) rfl dX4_seed_1 ?_
  refine va_get (D := D) (ci := 1) (v := .int (iI (T 2))) (C := RX2) (T := TX2) (N := 12) hx hb hts (iT_X4_seed_X2) hown hK hP 1 rfl rfl 2 (by decide) (hts (.fieldLink RX4 196 "WordSupper$Table" "z" "I") (by decide +kernel)) (fun _ h9 => h9) rfl dX4_seed_4 ?_
  refine lv_istore_n (lv' := [(2, .int (iI (T 2))), (0, .ref x), (1, .int (iI v))]) hx hb dX4_seed_7 rfl hl (by decide) rfl (fun ls hl => ?_)
  refine lv_aload_n hx hb dX4_seed_8 rfl (lv_at hl 1 rfl) ?_
  refine va_get (D := D) (ci := 3) (v := .ref (q 0)) (C := RX4) (T := TX4) (N := 7) hx hb hts (iT_X4_seed_X4) hown hK hP 0 rfl rfl 0 (by decide) (hts (.fieldLink RX4 10 "WordSupper" "table" "LWordSupper$Table;") (by decide +kernel)) (fun _ h9 => h9) rfl dX4_seed_9 ?_
  refine lv_iload_n hx hb dX4_seed_12 rfl (lv_at hl 2 rfl) ?_
  refine x_putI (D := D) (ty := .int) (C := RX2) (T := TX2) (N := 12) hx hb 1 hts (iT_X4_seed_X2) tyX2 tyX2_ok nmX2 hown hK hP hD hS 1 rfl rfl 2 (by decide) (hts (.fieldLink RX4 196 "WordSupper$Table" "z" "I") (by decide +kernel)) (fun _ h9 => h9) rfl (by decide +kernel) rfl rfl (Nat.le_of_ble_eq_true rfl) (wObj x f q kq vq h g ik ++ (wTab cI q (va_up T 2 v) (jc 0) ++ (wTab cI kq K (jc 1) ++ (wTab cI vq V (jc 2) ++ (wSh cI h SB SS SN ++ (wTp cB g tn TB jc ++ (wA cI f 7 F))))))) (by rw [← wT_z cI q T (jc 0) v]; rfl) dX4_seed_13 (fun H locs hP hD hS => ?_)
  refine lv_iload_n hx hb dX4_seed_16 rfl (lv_at hl 0 rfl) ?_
  exact kend ((T 2, va_up T 2 v, K, ik, SB, SS, SN, tn, TB, F), V, jc) hP hS rfl rfl dX4_seed_17
theorem ykSX4_wipe : yX4_wipe.cls ≠ "java/lang/invoke/MethodHandle" ∧ yX4_wipe.cls ≠ "java/lang/invoke/VarHandle" ∧ (parseMethodDescriptor yX4_wipe.desc).map (fun d => d.parameters.length) = some 0 := by decide +kernel
theorem ykVX4_wipe : yX4_wipe.cls = RX4 ∧ yX4_wipe.cls ≠ "java/lang/invoke/MethodHandle" ∧ yX4_wipe.cls ≠ "java/lang/invoke/VarHandle" ∧ (parseMethodDescriptor yX4_wipe.desc).map (fun d => d.parameters.length) = some 0 := ⟨rfl, ykSX4_wipe⟩
set_option maxRecDepth 20000 in
theorem iT_X4_wipe_X4 : ∀ w ∈ u_ws RX4 TX4 7, w ∈ wsX4_wipe := by decide +kernel
set_option maxRecDepth 20000 in
theorem iT_X4_wipe_X3 : ∀ w ∈ u_ws RX3 TX3 6, w ∈ wsX4_wipe := by decide +kernel
set_option maxHeartbeats 4000000 in
set_option maxRecDepth 100000 in
theorem kX4_wipe {l : Launch} {D : va_G} {cI cB : ClassId} (x f : Nat) (q kq vq h g : Nat → Nat) (T K : Tb) (ik : Int) (SB SS SN : Nat → Int) (tn : Int) (TB F : Nat → Int) (V : Tb) (jc : Nat → Int) (B : Int) (hG : GI B T K ik SB SS SN tn TB F) (hB : B ≤ 40000)  : Ct l yX4_wipe wsX4_wipe 0 0 D [(cI, .int), (cB, .byte)] [.ref x] (wC cI cB x f q kq vq h g (T, K, ik, SB, SS, SN, tn, TB, F) V jc) (S := (Int × Gs) × Tb × (Nat → Int)) (fun u => some (.int (iI u.1.1))) (fun u => u.1 = m_wipe T K ik SB SS SN tn TB F) (fun u => wC cI cB x f q kq vq h g u.1.2 u.2.1 u.2.2) := by
  refine CtI.of (cc := cX4_wipe) (maxL := 2) (by decide +kernel) rfl (Nat.le_of_ble_eq_true rfl) ?_
  intro pg e s m args below meth c Q A hx hb hml hts hown hP hK hD hS ls hl kend
  have hown : s.vm.findClass RX4 = some m.cls := hown
  have hl : lv_has ls 2 [(0, .ref x)] := hl
  obtain ⟨hI, hIK, hik, hSB, hSS, hSN, htn, hTB, hF⟩ := id hG
  have hn := Inv_n hI
  have hdy := Inv_d hI
  have hP : va_P D vwCl (wObj x f q kq vq h g ik ++ (wTab cI q T (jc 0) ++ (wTab cI kq K (jc 1) ++ (wTab cI vq V (jc 2) ++ (wSh cI h SB SS SN ++ (wTp cB g tn TB jc ++ (wA cI f 7 F))))))) s.heap := hP
  have hD : va_D A (wObj x f q kq vq h g ik ++ (wTab cI q T (jc 0) ++ (wTab cI kq K (jc 1) ++ (wTab cI vq V (jc 2) ++ (wSh cI h SB SS SN ++ (wTp cB g tn TB jc ++ (wA cI f 7 F))))))) := hD
  refine lv_aload_n hx hb dX4_wipe_0 rfl (lv_at hl 0 rfl) ?_
  refine va_get (D := D) (ci := 3) (v := .ref (g 0)) (C := RX4) (T := TX4) (N := 7) hx hb hts (iT_X4_wipe_X4) hown hK hP 0 rfl rfl 4 (by decide) (hts (.fieldLink RX4 32 "WordSupper" "tape" "LWordSupper$Tape;") (by decide +kernel)) (fun _ h9 => h9) rfl dX4_wipe_1 ?_
  refine va_get (D := D) (ci := 2) (v := .int (iI tn)) (C := RX3) (T := TX3) (N := 6) hx hb hts (iT_X4_wipe_X3) hown hK hP 29 rfl rfl 0 (by decide) (hts (.fieldLink RX4 199 "WordSupper$Tape" "size" "I") (by decide +kernel)) (fun _ h9 => h9) rfl dX4_wipe_4 ?_
  refine lv_istore_n (lv' := [(1, .int (iI tn)), (0, .ref x)]) hx hb dX4_wipe_7 rfl hl (by decide) rfl (fun ls hl => ?_)
  refine lv_aload_n hx hb dX4_wipe_8 rfl (lv_at hl 1 rfl) ?_
  refine va_get (D := D) (ci := 3) (v := .ref (g 0)) (C := RX4) (T := TX4) (N := 7) hx hb hts (iT_X4_wipe_X4) hown hK hP 0 rfl rfl 4 (by decide) (hts (.fieldLink RX4 32 "WordSupper" "tape" "LWordSupper$Tape;") (by decide +kernel)) (fun _ h9 => h9) rfl dX4_wipe_9 ?_
  refine x_iconst hx hb dX4_wipe_12 ?_
  refine x_putI (D := D) (ty := .int) (C := RX3) (T := TX3) (N := 6) hx hb 2 hts (iT_X4_wipe_X3) tyX3 tyX3_ok nmX3 hown hK hP hD hS 29 rfl rfl 0 (by decide) (hts (.fieldLink RX4 199 "WordSupper$Tape" "size" "I") (by decide +kernel)) (fun _ h9 => h9) rfl (by decide +kernel) rfl rfl (Nat.le_of_ble_eq_true rfl) (wObj x f q kq vq h g ik ++ (wTab cI q T (jc 0) ++ (wTab cI kq K (jc 1) ++ (wTab cI vq V (jc 2) ++ (wSh cI h SB SS SN ++ (wTp cB g 0 TB jc ++ (wA cI f 7 F))))))) (rfl) dX4_wipe_13 (fun H locs hP hD hS => ?_)
  refine lv_iload_n hx hb dX4_wipe_16 rfl (lv_at hl 0 rfl) ?_
  exact kend ((tn, T, K, ik, SB, SS, SN, 0, TB, F), V, jc) hP hS rfl rfl dX4_wipe_17
theorem ykSX4_hold : yX4_hold.cls ≠ "java/lang/invoke/MethodHandle" ∧ yX4_hold.cls ≠ "java/lang/invoke/VarHandle" ∧ (parseMethodDescriptor yX4_hold.desc).map (fun d => d.parameters.length) = some 2 := by decide +kernel
theorem ykVX4_hold : yX4_hold.cls = RX4 ∧ yX4_hold.cls ≠ "java/lang/invoke/MethodHandle" ∧ yX4_hold.cls ≠ "java/lang/invoke/VarHandle" ∧ (parseMethodDescriptor yX4_hold.desc).map (fun d => d.parameters.length) = some 2 := ⟨rfl, ykSX4_hold⟩
set_option maxRecDepth 20000 in
theorem iT_X4_hold_X4 : ∀ w ∈ u_ws RX4 TX4 7, w ∈ wsX4_hold := by decide +kernel
set_option maxRecDepth 20000 in
theorem iT_X4_hold_X2 : ∀ w ∈ u_ws RX2 TX2 12, w ∈ wsX4_hold := by decide +kernel
set_option maxHeartbeats 4000000 in
set_option maxRecDepth 100000 in
theorem kX4_hold {l : Launch} {D : va_G} {cI cB : ClassId} (x f : Nat) (q kq vq h g : Nat → Nat) (T K : Tb) (ik : Int) (SB SS SN : Nat → Int) (tn : Int) (TB F : Nat → Int) (V : Tb) (jc : Nat → Int) (k sp : Int) (B : Int) (hG : GI B T K ik SB SS SN tn TB F) (hB : B ≤ 40000) (h_k : rI k) (h_sp : rI sp) : Ct l yX4_hold wsX4_hold 2 44 D [(cI, .int), (cB, .byte)] [.ref x, .int (iI k), .int (iI sp)] (wC cI cB x f q kq vq h g (T, K, ik, SB, SS, SN, tn, TB, F) V jc) (S := (Int × Gs) × Tb × (Nat → Int)) (fun u => some (.int (iI u.1.1))) (fun u => u.1 = m_hold k sp T K ik SB SS SN tn TB F) (fun u => wC cI cB x f q kq vq h g u.1.2 u.2.1 u.2.2) := by
  refine CtI.of (cc := cX4_hold) (maxL := 4) (by decide +kernel) rfl (Nat.le_of_ble_eq_true rfl) ?_
  intro pg e s m args below meth c Q A hx hb hml hts hown hP hK hD hS ls hl kend
  have hown : s.vm.findClass RX4 = some m.cls := hown
  have hl : lv_has ls 4 [(0, .ref x), (1, .int (iI k)), (2, .int (iI sp))] := hl
  obtain ⟨hI, hIK, hik, hSB, hSS, hSN, htn, hTB, hF⟩ := id hG
  have hn := Inv_n hI
  have hdy := Inv_d hI
  have hP : va_P D vwCl (wObj x f q kq vq h g ik ++ (wTab cI q T (jc 0) ++ (wTab cI kq K (jc 1) ++ (wTab cI vq V (jc 2) ++ (wSh cI h SB SS SN ++ (wTp cB g tn TB jc ++ (wA cI f 7 F))))))) s.heap := hP
  have hD : va_D A (wObj x f q kq vq h g ik ++ (wTab cI q T (jc 0) ++ (wTab cI kq K (jc 1) ++ (wTab cI vq V (jc 2) ++ (wSh cI h SB SS SN ++ (wTp cB g tn TB jc ++ (wA cI f 7 F))))))) := hD
  refine lv_iload_n hx hb dX4_hold_0 rfl (lv_at hl 2 rfl) ?_
  refine x_iconst hx hb dX4_hold_1 ?_
  refine x_icmp_eq (tgt := 16) hx hb (by omega) (by decide) dX4_hold_2 (by decide) (fun c_2 => ?_) (fun c_2 => ?_)
  · refine x_iconst hx hb dX4_hold_16 ?_
    refine lv_goto (tgt := 21) hx hb dX4_hold_17 (by decide) ?_
    refine lv_istore_n (lv' := [(3, .int (iI 1)), (0, .ref x), (1, .int (iI k)), (2, .int (iI sp))]) hx hb dX4_hold_21 rfl hl (by decide) rfl (fun ls hl => ?_)
    refine lv_iload_n hx hb dX4_hold_22 rfl (lv_at hl 2 rfl) ?_
    refine x_iconst hx hb dX4_hold_23 ?_
    refine x_bipush hx hb dX4_hold_24 (by decide) ?_
    refine x_callS (As := [.int (iI k), .int (iI 0), .int (iI 9)]) (rest := []) ⟨hx, hb, hml, hown, hts⟩ (kX4_isWithin k 0 9 (by omega) (by decide) (by decide)) (va_cwS 3 hts gX4_hold_X4_isWithin rfl rfl rfl ykSX4_isWithin ⟨Nat.le_of_ble_eq_true rfl, Nat.le_of_ble_eq_true rfl⟩) hP hK hD hS [] rfl (by decide) (fun _ => rfl) (fun _ => wObj x f q kq vq h g ik ++ (wTab cI q T (jc 0) ++ (wTab cI kq K (jc 1) ++ (wTab cI vq V (jc 2) ++ (wSh cI h SB SS SN ++ (wTp cB g tn TB jc ++ (wA cI f 7 F))))))) (fun _ => rfl) rfl hl.1 rfl (Nat.le_of_ble_eq_true rfl) dX4_hold_26 ⟨Nat.le_of_ble_eq_true rfl, Nat.le_of_ble_eq_true rfl⟩ (fun _ H locs _ hP hD hS => ?_)
    refine W.eq (g2 := F0 m 29 ls [.int (iI (b2 (decide (0 ≤ k ∧ k ≤ 9))))]) rfl ?_
    refine x_ifb_eq (tgt := 36) hx hb dX4_hold_29 (by decide) (fun c_29 => ?_) (fun c_29 => ?_)
    · refine lv_aload_n hx hb dX4_hold_36 rfl (lv_at hl 1 rfl) ?_
      refine x_ldc hx hb (-1000001) rfl hown (hts (.constant RX4 44 (-1000001)) (by decide +kernel)) dX4_hold_37 ?_
      refine x_callV (As := [.int (iI (-1000001))]) (rest := []) ⟨hx, hb, hml, hown, hts⟩ (kX4_finding x f q kq vq h g ik F (-1000001) 0 (by omega) (by omega)) (cwV 1 hts gX4_hold_X4_finding rfl rfl rfl ykVX4_finding ⟨Nat.le_of_ble_eq_true rfl, Nat.le_of_ble_eq_true rfl⟩) hP hK hD hS 0 3 rfl rfl rfl [0, 31] rfl (by decide) (fun _ => rfl) (fun _ => wObj x f q kq vq h g ik ++ (wTab cI q T (jc 0) ++ (wTab cI kq K (jc 1) ++ (wTab cI vq V (jc 2) ++ (wSh cI h SB SS SN ++ (wTp cB g tn TB jc ++ (wA cI f 7 (bmp 0 F)))))))) (fun _ => rfl) rfl hl.1 rfl (Nat.le_of_ble_eq_true rfl) dX4_hold_39 ⟨Nat.le_of_ble_eq_true rfl, Nat.le_of_ble_eq_true rfl⟩ (fun _ H locs _ hP hD hS => ?_)
      refine W.eq (g2 := F0 m 42 ls [.int (iI (-1000001))]) rfl ?_
      exact kend (((-1000001), T, K, ik, SB, SS, SN, tn, TB, (bmp 0 F)), V, jc) hP hS rfl (if_neg (by omega)).symm dX4_hold_42
    · refine lv_iload_n hx hb dX4_hold_32 rfl (lv_at hl 0 rfl) ?_
      refine x_if_ne (tgt := 43) hx hb (by decide) dX4_hold_33 (by decide) (fun c_33 => ?_) (fun c_33 => ?_)
      · obtain ⟨k0, rfl⟩ : ∃ k0 : Nat, k = (k0 : Int) := ⟨k.toNat, by omega⟩
        refine lv_aload_n hx hb dX4_hold_43 rfl (lv_at hl 1 rfl) ?_
        refine va_get (D := D) (ci := 3) (v := .ref (q 0)) (C := RX4) (T := TX4) (N := 7) hx hb hts (iT_X4_hold_X4) hown hK hP 0 rfl rfl 0 (by decide) (hts (.fieldLink RX4 10 "WordSupper" "table" "LWordSupper$Table;") (by decide +kernel)) (fun _ h9 => h9) rfl dX4_hold_44 ?_
        refine va_get (D := D) (ci := 1) (v := .ref (q 7)) (C := RX2) (T := TX2) (N := 12) hx hb hts (iT_X4_hold_X2) hown hK hP 1 rfl rfl 11 (by decide) (hts (.fieldLink RX4 209 "WordSupper$Table" "spots" "[I") (by decide +kernel)) (fun _ h9 => h9) rfl dX4_hold_47 ?_
        refine lv_iload_n hx hb dX4_hold_50 rfl (lv_at hl 2 rfl) ?_
        refine lv_iload_n hx hb dX4_hold_51 rfl (lv_at hl 3 rfl) ?_
        refine x_iast hx hb hK hP hD hS 8 0 rfl rfl k0 rfl (by omega) (by decide) (wObj x f q kq vq h g ik ++ (wTab cI q (va_up T (90 + k0) sp) (jc 0) ++ (wTab cI kq K (jc 1) ++ (wTab cI vq V (jc 2) ++ (wSh cI h SB SS SN ++ (wTp cB g tn TB jc ++ (wA cI f 7 F))))))) (by rw [← wT_spots cI q T (jc 0) sp k0 (by omega)]; rfl) dX4_hold_52 (fun H locs hP hD hS => ?_)
        refine x_iconst hx hb dX4_hold_53 ?_
        exact kend ((1, va_up T (90 + k0) sp, K, ik, SB, SS, SN, tn, TB, F), V, jc) hP hS rfl (if_pos (by omega)).symm dX4_hold_54
      · exact absurd c_33 (by decide)
  · refine lv_aload_n hx hb dX4_hold_5 rfl (lv_at hl 0 rfl) ?_
    refine va_get (D := D) (ci := 3) (v := .ref (q 0)) (C := RX4) (T := TX4) (N := 7) hx hb hts (iT_X4_hold_X4) hown hK hP 0 rfl rfl 0 (by decide) (hts (.fieldLink RX4 10 "WordSupper" "table" "LWordSupper$Table;") (by decide +kernel)) (fun _ h9 => h9) rfl dX4_hold_6 ?_
    refine lv_iload_n hx hb dX4_hold_9 rfl (lv_at hl 2 rfl) ?_
    refine x_callV (As := [.int (iI sp)]) (rest := []) ⟨hx, hb, hml, hown, hts⟩ (kX2_isSeat q T (jc 0) sp (by omega) (by omega)) (cwV 1 hts gX4_hold_X2_isSeat rfl rfl rfl ykVX2_isSeat ⟨Nat.le_of_ble_eq_true rfl, Nat.le_of_ble_eq_true rfl⟩) hP hK hD hS 1 1 rfl rfl rfl [1, 2, 3, 4, 5, 6, 7, 8] rfl (by decide) (fun _ => rfl) (fun _ => wObj x f q kq vq h g ik ++ (wTab cI q T (jc 0) ++ (wTab cI kq K (jc 1) ++ (wTab cI vq V (jc 2) ++ (wSh cI h SB SS SN ++ (wTp cB g tn TB jc ++ (wA cI f 7 F))))))) (fun _ => rfl) rfl hl.1 rfl (Nat.le_of_ble_eq_true rfl) dX4_hold_10 ⟨Nat.le_of_ble_eq_true rfl, Nat.le_of_ble_eq_true rfl⟩ (fun _ H locs _ hP hD hS => ?_)
    refine W.eq (g2 := F0 m 13 ls [.int (iI (b2 (decide (0 ≤ sp ∧ sp < T 0))))]) rfl ?_
    refine x_ifb_eq (tgt := 20) hx hb dX4_hold_13 (by decide) (fun c_13 => ?_) (fun c_13 => ?_)
    · refine x_iconst hx hb dX4_hold_20 ?_
      refine lv_istore_n (lv' := [(3, .int (iI 0)), (0, .ref x), (1, .int (iI k)), (2, .int (iI sp))]) hx hb dX4_hold_21 rfl hl (by decide) rfl (fun ls hl => ?_)
      refine lv_iload_n hx hb dX4_hold_22 rfl (lv_at hl 2 rfl) ?_
      refine x_iconst hx hb dX4_hold_23 ?_
      refine x_bipush hx hb dX4_hold_24 (by decide) ?_
      refine x_callS (As := [.int (iI k), .int (iI 0), .int (iI 9)]) (rest := []) ⟨hx, hb, hml, hown, hts⟩ (kX4_isWithin k 0 9 (by omega) (by decide) (by decide)) (va_cwS 3 hts gX4_hold_X4_isWithin rfl rfl rfl ykSX4_isWithin ⟨Nat.le_of_ble_eq_true rfl, Nat.le_of_ble_eq_true rfl⟩) hP hK hD hS [] rfl (by decide) (fun _ => rfl) (fun _ => wObj x f q kq vq h g ik ++ (wTab cI q T (jc 0) ++ (wTab cI kq K (jc 1) ++ (wTab cI vq V (jc 2) ++ (wSh cI h SB SS SN ++ (wTp cB g tn TB jc ++ (wA cI f 7 F))))))) (fun _ => rfl) rfl hl.1 rfl (Nat.le_of_ble_eq_true rfl) dX4_hold_26 ⟨Nat.le_of_ble_eq_true rfl, Nat.le_of_ble_eq_true rfl⟩ (fun _ H locs _ hP hD hS => ?_)
      refine W.eq (g2 := F0 m 29 ls [.int (iI (b2 (decide (0 ≤ k ∧ k ≤ 9))))]) rfl ?_
      refine x_ifb_eq (tgt := 36) hx hb dX4_hold_29 (by decide) (fun c_29 => ?_) (fun c_29 => ?_)
      · refine lv_aload_n hx hb dX4_hold_36 rfl (lv_at hl 1 rfl) ?_
        refine x_ldc hx hb (-1000001) rfl hown (hts (.constant RX4 44 (-1000001)) (by decide +kernel)) dX4_hold_37 ?_
        refine x_callV (As := [.int (iI (-1000001))]) (rest := []) ⟨hx, hb, hml, hown, hts⟩ (kX4_finding x f q kq vq h g ik F (-1000001) 0 (by omega) (by omega)) (cwV 1 hts gX4_hold_X4_finding rfl rfl rfl ykVX4_finding ⟨Nat.le_of_ble_eq_true rfl, Nat.le_of_ble_eq_true rfl⟩) hP hK hD hS 0 3 rfl rfl rfl [0, 31] rfl (by decide) (fun _ => rfl) (fun _ => wObj x f q kq vq h g ik ++ (wTab cI q T (jc 0) ++ (wTab cI kq K (jc 1) ++ (wTab cI vq V (jc 2) ++ (wSh cI h SB SS SN ++ (wTp cB g tn TB jc ++ (wA cI f 7 (bmp 0 F)))))))) (fun _ => rfl) rfl hl.1 rfl (Nat.le_of_ble_eq_true rfl) dX4_hold_39 ⟨Nat.le_of_ble_eq_true rfl, Nat.le_of_ble_eq_true rfl⟩ (fun _ H locs _ hP hD hS => ?_)
        refine W.eq (g2 := F0 m 42 ls [.int (iI (-1000001))]) rfl ?_
        exact kend (((-1000001), T, K, ik, SB, SS, SN, tn, TB, (bmp 0 F)), V, jc) hP hS rfl (if_neg (by omega)).symm dX4_hold_42
      · refine lv_iload_n hx hb dX4_hold_32 rfl (lv_at hl 0 rfl) ?_
        refine x_if_ne (tgt := 43) hx hb (by decide) dX4_hold_33 (by decide) (fun c_33 => ?_) (fun c_33 => ?_)
        · exact absurd c_33 (by decide)
        · refine lv_aload_n hx hb dX4_hold_36 rfl (lv_at hl 1 rfl) ?_
          refine x_ldc hx hb (-1000001) rfl hown (hts (.constant RX4 44 (-1000001)) (by decide +kernel)) dX4_hold_37 ?_
          refine x_callV (As := [.int (iI (-1000001))]) (rest := []) ⟨hx, hb, hml, hown, hts⟩ (kX4_finding x f q kq vq h g ik F (-1000001) 0 (by omega) (by omega)) (cwV 1 hts gX4_hold_X4_finding rfl rfl rfl ykVX4_finding ⟨Nat.le_of_ble_eq_true rfl, Nat.le_of_ble_eq_true rfl⟩) hP hK hD hS 0 3 rfl rfl rfl [0, 31] rfl (by decide) (fun _ => rfl) (fun _ => wObj x f q kq vq h g ik ++ (wTab cI q T (jc 0) ++ (wTab cI kq K (jc 1) ++ (wTab cI vq V (jc 2) ++ (wSh cI h SB SS SN ++ (wTp cB g tn TB jc ++ (wA cI f 7 (bmp 0 F)))))))) (fun _ => rfl) rfl hl.1 rfl (Nat.le_of_ble_eq_true rfl) dX4_hold_39 ⟨Nat.le_of_ble_eq_true rfl, Nat.le_of_ble_eq_true rfl⟩ (fun _ H locs _ hP hD hS => ?_)
          refine W.eq (g2 := F0 m 42 ls [.int (iI (-1000001))]) rfl ?_
          exact kend (((-1000001), T, K, ik, SB, SS, SN, tn, TB, (bmp 0 F)), V, jc) hP hS rfl (if_neg (by omega)).symm dX4_hold_42
    · refine x_iconst hx hb dX4_hold_16 ?_
      refine lv_goto (tgt := 21) hx hb dX4_hold_17 (by decide) ?_
      refine lv_istore_n (lv' := [(3, .int (iI 1)), (0, .ref x), (1, .int (iI k)), (2, .int (iI sp))]) hx hb dX4_hold_21 rfl hl (by decide) rfl (fun ls hl => ?_)
      refine lv_iload_n hx hb dX4_hold_22 rfl (lv_at hl 2 rfl) ?_
      refine x_iconst hx hb dX4_hold_23 ?_
      refine x_bipush hx hb dX4_hold_24 (by decide) ?_
      refine x_callS (As := [.int (iI k), .int (iI 0), .int (iI 9)]) (rest := []) ⟨hx, hb, hml, hown, hts⟩ (kX4_isWithin k 0 9 (by omega) (by decide) (by decide)) (va_cwS 3 hts gX4_hold_X4_isWithin rfl rfl rfl ykSX4_isWithin ⟨Nat.le_of_ble_eq_true rfl, Nat.le_of_ble_eq_true rfl⟩) hP hK hD hS [] rfl (by decide) (fun _ => rfl) (fun _ => wObj x f q kq vq h g ik ++ (wTab cI q T (jc 0) ++ (wTab cI kq K (jc 1) ++ (wTab cI vq V (jc 2) ++ (wSh cI h SB SS SN ++ (wTp cB g tn TB jc ++ (wA cI f 7 F))))))) (fun _ => rfl) rfl hl.1 rfl (Nat.le_of_ble_eq_true rfl) dX4_hold_26 ⟨Nat.le_of_ble_eq_true rfl, Nat.le_of_ble_eq_true rfl⟩ (fun _ H locs _ hP hD hS => ?_)
      refine W.eq (g2 := F0 m 29 ls [.int (iI (b2 (decide (0 ≤ k ∧ k ≤ 9))))]) rfl ?_
      refine x_ifb_eq (tgt := 36) hx hb dX4_hold_29 (by decide) (fun c_29 => ?_) (fun c_29 => ?_)
      · refine lv_aload_n hx hb dX4_hold_36 rfl (lv_at hl 1 rfl) ?_
        refine x_ldc hx hb (-1000001) rfl hown (hts (.constant RX4 44 (-1000001)) (by decide +kernel)) dX4_hold_37 ?_
        refine x_callV (As := [.int (iI (-1000001))]) (rest := []) ⟨hx, hb, hml, hown, hts⟩ (kX4_finding x f q kq vq h g ik F (-1000001) 0 (by omega) (by omega)) (cwV 1 hts gX4_hold_X4_finding rfl rfl rfl ykVX4_finding ⟨Nat.le_of_ble_eq_true rfl, Nat.le_of_ble_eq_true rfl⟩) hP hK hD hS 0 3 rfl rfl rfl [0, 31] rfl (by decide) (fun _ => rfl) (fun _ => wObj x f q kq vq h g ik ++ (wTab cI q T (jc 0) ++ (wTab cI kq K (jc 1) ++ (wTab cI vq V (jc 2) ++ (wSh cI h SB SS SN ++ (wTp cB g tn TB jc ++ (wA cI f 7 (bmp 0 F)))))))) (fun _ => rfl) rfl hl.1 rfl (Nat.le_of_ble_eq_true rfl) dX4_hold_39 ⟨Nat.le_of_ble_eq_true rfl, Nat.le_of_ble_eq_true rfl⟩ (fun _ H locs _ hP hD hS => ?_)
        refine W.eq (g2 := F0 m 42 ls [.int (iI (-1000001))]) rfl ?_
        exact kend (((-1000001), T, K, ik, SB, SS, SN, tn, TB, (bmp 0 F)), V, jc) hP hS rfl (if_neg (by omega)).symm dX4_hold_42
      · refine lv_iload_n hx hb dX4_hold_32 rfl (lv_at hl 0 rfl) ?_
        refine x_if_ne (tgt := 43) hx hb (by decide) dX4_hold_33 (by decide) (fun c_33 => ?_) (fun c_33 => ?_)
        · obtain ⟨k0, rfl⟩ : ∃ k0 : Nat, k = (k0 : Int) := ⟨k.toNat, by omega⟩
          refine lv_aload_n hx hb dX4_hold_43 rfl (lv_at hl 1 rfl) ?_
          refine va_get (D := D) (ci := 3) (v := .ref (q 0)) (C := RX4) (T := TX4) (N := 7) hx hb hts (iT_X4_hold_X4) hown hK hP 0 rfl rfl 0 (by decide) (hts (.fieldLink RX4 10 "WordSupper" "table" "LWordSupper$Table;") (by decide +kernel)) (fun _ h9 => h9) rfl dX4_hold_44 ?_
          refine va_get (D := D) (ci := 1) (v := .ref (q 7)) (C := RX2) (T := TX2) (N := 12) hx hb hts (iT_X4_hold_X2) hown hK hP 1 rfl rfl 11 (by decide) (hts (.fieldLink RX4 209 "WordSupper$Table" "spots" "[I") (by decide +kernel)) (fun _ h9 => h9) rfl dX4_hold_47 ?_
          refine lv_iload_n hx hb dX4_hold_50 rfl (lv_at hl 2 rfl) ?_
          refine lv_iload_n hx hb dX4_hold_51 rfl (lv_at hl 3 rfl) ?_
          refine x_iast hx hb hK hP hD hS 8 0 rfl rfl k0 rfl (by omega) (by decide) (wObj x f q kq vq h g ik ++ (wTab cI q (va_up T (90 + k0) sp) (jc 0) ++ (wTab cI kq K (jc 1) ++ (wTab cI vq V (jc 2) ++ (wSh cI h SB SS SN ++ (wTp cB g tn TB jc ++ (wA cI f 7 F))))))) (by rw [← wT_spots cI q T (jc 0) sp k0 (by omega)]; rfl) dX4_hold_52 (fun H locs hP hD hS => ?_)
          refine x_iconst hx hb dX4_hold_53 ?_
          exact kend ((1, va_up T (90 + k0) sp, K, ik, SB, SS, SN, tn, TB, F), V, jc) hP hS rfl (if_pos (by omega)).symm dX4_hold_54
        · exact absurd c_33 (by decide)
theorem ykSX4_as : yX4_as.cls ≠ "java/lang/invoke/MethodHandle" ∧ yX4_as.cls ≠ "java/lang/invoke/VarHandle" ∧ (parseMethodDescriptor yX4_as.desc).map (fun d => d.parameters.length) = some 2 := by decide +kernel
theorem ykVX4_as : yX4_as.cls = RX4 ∧ yX4_as.cls ≠ "java/lang/invoke/MethodHandle" ∧ yX4_as.cls ≠ "java/lang/invoke/VarHandle" ∧ (parseMethodDescriptor yX4_as.desc).map (fun d => d.parameters.length) = some 2 := ⟨rfl, ykSX4_as⟩
set_option maxRecDepth 20000 in
theorem iT_X4_as_X4 : ∀ w ∈ u_ws RX4 TX4 7, w ∈ wsX4_as := by decide +kernel
set_option maxRecDepth 20000 in
theorem iT_X4_as_X2 : ∀ w ∈ u_ws RX2 TX2 12, w ∈ wsX4_as := by decide +kernel
set_option maxHeartbeats 4000000 in
set_option maxRecDepth 100000 in
theorem kX4_as {l : Launch} {D : va_G} {cI cB : ClassId} (x f : Nat) (q kq vq h g : Nat → Nat) (T K : Tb) (ik : Int) (SB SS SN : Nat → Int) (tn : Int) (TB F : Nat → Int) (V : Tb) (jc : Nat → Int) (k kd : Int) (B : Int) (hG : GI B T K ik SB SS SN tn TB F) (hB : B ≤ 40000) (h_k : rI k) (h_kd : rI kd) : Ct l yX4_as wsX4_as 2 44 D [(cI, .int), (cB, .byte)] [.ref x, .int (iI k), .int (iI kd)] (wC cI cB x f q kq vq h g (T, K, ik, SB, SS, SN, tn, TB, F) V jc) (S := (Int × Gs) × Tb × (Nat → Int)) (fun u => some (.int (iI u.1.1))) (fun u => u.1 = m_as k kd T K ik SB SS SN tn TB F) (fun u => wC cI cB x f q kq vq h g u.1.2 u.2.1 u.2.2) := by
  refine CtI.of (cc := cX4_as) (maxL := 4) (by decide +kernel) rfl (Nat.le_of_ble_eq_true rfl) ?_
  intro pg e s m args below meth c Q A hx hb hml hts hown hP hK hD hS ls hl kend
  have hown : s.vm.findClass RX4 = some m.cls := hown
  have hl : lv_has ls 4 [(0, .ref x), (1, .int (iI k)), (2, .int (iI kd))] := hl
  obtain ⟨hI, hIK, hik, hSB, hSS, hSN, htn, hTB, hF⟩ := id hG
  have hn := Inv_n hI
  have hdy := Inv_d hI
  have hP : va_P D vwCl (wObj x f q kq vq h g ik ++ (wTab cI q T (jc 0) ++ (wTab cI kq K (jc 1) ++ (wTab cI vq V (jc 2) ++ (wSh cI h SB SS SN ++ (wTp cB g tn TB jc ++ (wA cI f 7 F))))))) s.heap := hP
  have hD : va_D A (wObj x f q kq vq h g ik ++ (wTab cI q T (jc 0) ++ (wTab cI kq K (jc 1) ++ (wTab cI vq V (jc 2) ++ (wSh cI h SB SS SN ++ (wTp cB g tn TB jc ++ (wA cI f 7 F))))))) := hD
  refine lv_iload_n hx hb dX4_as_0 rfl (lv_at hl 1 rfl) ?_
  refine x_iconst hx hb dX4_as_1 ?_
  refine x_bipush hx hb dX4_as_2 (by decide) ?_
  refine x_callS (As := [.int (iI k), .int (iI 0), .int (iI 9)]) (rest := []) ⟨hx, hb, hml, hown, hts⟩ (kX4_isWithin k 0 9 (by omega) (by decide) (by decide)) (va_cwS 3 hts gX4_as_X4_isWithin rfl rfl rfl ykSX4_isWithin ⟨Nat.le_of_ble_eq_true rfl, Nat.le_of_ble_eq_true rfl⟩) hP hK hD hS [] rfl (by decide) (fun _ => rfl) (fun _ => wObj x f q kq vq h g ik ++ (wTab cI q T (jc 0) ++ (wTab cI kq K (jc 1) ++ (wTab cI vq V (jc 2) ++ (wSh cI h SB SS SN ++ (wTp cB g tn TB jc ++ (wA cI f 7 F))))))) (fun _ => rfl) rfl hl.1 rfl (Nat.le_of_ble_eq_true rfl) dX4_as_4 ⟨Nat.le_of_ble_eq_true rfl, Nat.le_of_ble_eq_true rfl⟩ (fun _ H locs _ hP hD hS => ?_)
  refine W.eq (g2 := F0 m 7 ls [.int (iI (b2 (decide (0 ≤ k ∧ k ≤ 9))))]) rfl ?_
  refine x_ifb_eq (tgt := 17) hx hb dX4_as_7 (by decide) (fun c_7 => ?_) (fun c_7 => ?_)
  · refine lv_aload_n hx hb dX4_as_17 rfl (lv_at hl 0 rfl) ?_
    refine x_ldc hx hb (-1000001) rfl hown (hts (.constant RX4 44 (-1000001)) (by decide +kernel)) dX4_as_18 ?_
    refine x_callV (As := [.int (iI (-1000001))]) (rest := []) ⟨hx, hb, hml, hown, hts⟩ (kX4_finding x f q kq vq h g ik F (-1000001) 0 (by omega) (by omega)) (cwV 1 hts gX4_as_X4_finding rfl rfl rfl ykVX4_finding ⟨Nat.le_of_ble_eq_true rfl, Nat.le_of_ble_eq_true rfl⟩) hP hK hD hS 0 3 rfl rfl rfl [0, 31] rfl (by decide) (fun _ => rfl) (fun _ => wObj x f q kq vq h g ik ++ (wTab cI q T (jc 0) ++ (wTab cI kq K (jc 1) ++ (wTab cI vq V (jc 2) ++ (wSh cI h SB SS SN ++ (wTp cB g tn TB jc ++ (wA cI f 7 (bmp 0 F)))))))) (fun _ => rfl) rfl hl.1 rfl (Nat.le_of_ble_eq_true rfl) dX4_as_20 ⟨Nat.le_of_ble_eq_true rfl, Nat.le_of_ble_eq_true rfl⟩ (fun _ H locs _ hP hD hS => ?_)
    refine W.eq (g2 := F0 m 23 ls [.int (iI (-1000001))]) rfl ?_
    exact kend (((-1000001), T, K, ik, SB, SS, SN, tn, TB, (bmp 0 F)), V, jc) hP hS rfl ((if_pos (by omega))).symm dX4_as_23
  · refine lv_iload_n hx hb dX4_as_10 rfl (lv_at hl 2 rfl) ?_
    refine x_callS (As := [.int (iI kd)]) (rest := []) ⟨hx, hb, hml, hown, hts⟩ (kX4_isKind kd (by omega)) (va_cwS 1 hts gX4_as_X4_isKind rfl rfl rfl ykSX4_isKind ⟨Nat.le_of_ble_eq_true rfl, Nat.le_of_ble_eq_true rfl⟩) hP hK hD hS [] rfl (by decide) (fun _ => rfl) (fun _ => wObj x f q kq vq h g ik ++ (wTab cI q T (jc 0) ++ (wTab cI kq K (jc 1) ++ (wTab cI vq V (jc 2) ++ (wSh cI h SB SS SN ++ (wTp cB g tn TB jc ++ (wA cI f 7 F))))))) (fun _ => rfl) rfl hl.1 rfl (Nat.le_of_ble_eq_true rfl) dX4_as_11 ⟨Nat.le_of_ble_eq_true rfl, Nat.le_of_ble_eq_true rfl⟩ (fun _ H locs _ hP hD hS => ?_)
    refine W.eq (g2 := F0 m 14 ls [.int (iI (b2 (decide (0 ≤ kd ∧ kd ≤ 6))))]) rfl ?_
    refine x_ifb_ne (tgt := 24) hx hb dX4_as_14 (by decide) (fun c_14 => ?_) (fun c_14 => ?_)
    · obtain ⟨k0, rfl⟩ : ∃ k0 : Nat, k = (k0 : Int) := ⟨k.toNat, by omega⟩
      refine lv_aload_n hx hb dX4_as_24 rfl (lv_at hl 0 rfl) ?_
      refine va_get (D := D) (ci := 3) (v := .ref (q 0)) (C := RX4) (T := TX4) (N := 7) hx hb hts (iT_X4_as_X4) hown hK hP 0 rfl rfl 0 (by decide) (hts (.fieldLink RX4 10 "WordSupper" "table" "LWordSupper$Table;") (by decide +kernel)) (fun _ h9 => h9) rfl dX4_as_25 ?_
      refine va_get (D := D) (ci := 1) (v := .ref (q 7)) (C := RX2) (T := TX2) (N := 12) hx hb hts (iT_X4_as_X2) hown hK hP 1 rfl rfl 11 (by decide) (hts (.fieldLink RX4 209 "WordSupper$Table" "spots" "[I") (by decide +kernel)) (fun _ h9 => h9) rfl dX4_as_28 ?_
      refine lv_iload_n hx hb dX4_as_31 rfl (lv_at hl 1 rfl) ?_
      refine x_iald hx hb hK hP 8 0 rfl rfl k0 rfl (by omega) (by decide) (T (90 + k0)) (gd_at _ (by omega)) dX4_as_32 ?_
      refine lv_istore_n (lv' := [(3, .int (iI (T (90 + k0)))), (0, .ref x), (1, .int (iI ((k0 : Nat) : Int))), (2, .int (iI kd))]) hx hb dX4_as_33 rfl hl (by decide) rfl (fun ls hl => ?_)
      have hsp := Inv_s hI (k := k0) (by omega)
      refine lv_aload_n hx hb dX4_as_34 rfl (lv_at hl 1 rfl) ?_
      refine va_get (D := D) (ci := 3) (v := .ref (q 0)) (C := RX4) (T := TX4) (N := 7) hx hb hts (iT_X4_as_X4) hown hK hP 0 rfl rfl 0 (by decide) (hts (.fieldLink RX4 10 "WordSupper" "table" "LWordSupper$Table;") (by decide +kernel)) (fun _ h9 => h9) rfl dX4_as_35 ?_
      refine lv_iload_n hx hb dX4_as_38 rfl (lv_at hl 0 rfl) ?_
      refine x_callV (As := [.int (iI (T (90 + k0)))]) (rest := []) ⟨hx, hb, hml, hown, hts⟩ (kX2_isSeat q T (jc 0) (T (90 + k0)) (by omega) (by omega)) (cwV 1 hts gX4_as_X2_isSeat rfl rfl rfl ykVX2_isSeat ⟨Nat.le_of_ble_eq_true rfl, Nat.le_of_ble_eq_true rfl⟩) hP hK hD hS 1 1 rfl rfl rfl [1, 2, 3, 4, 5, 6, 7, 8] rfl (by decide) (fun _ => rfl) (fun _ => wObj x f q kq vq h g ik ++ (wTab cI q T (jc 0) ++ (wTab cI kq K (jc 1) ++ (wTab cI vq V (jc 2) ++ (wSh cI h SB SS SN ++ (wTp cB g tn TB jc ++ (wA cI f 7 F))))))) (fun _ => rfl) rfl hl.1 rfl (Nat.le_of_ble_eq_true rfl) dX4_as_39 ⟨Nat.le_of_ble_eq_true rfl, Nat.le_of_ble_eq_true rfl⟩ (fun _ H locs _ hP hD hS => ?_)
      refine W.eq (g2 := F0 m 42 ls [.int (iI (b2 (decide (0 ≤ (T (90 + k0)) ∧ (T (90 + k0)) < T 0))))]) rfl ?_
      refine x_ifb_ne (tgt := 52) hx hb dX4_as_42 (by decide) (fun c_42 => ?_) (fun c_42 => ?_)
      · have hku := Inv_k (p := (T (90 + k0)).toNat) hI (by omega)
        refine lv_aload_n hx hb dX4_as_52 rfl (lv_at hl 1 rfl) ?_
        refine va_get (D := D) (ci := 3) (v := .ref (q 0)) (C := RX4) (T := TX4) (N := 7) hx hb hts (iT_X4_as_X4) hown hK hP 0 rfl rfl 0 (by decide) (hts (.fieldLink RX4 10 "WordSupper" "table" "LWordSupper$Table;") (by decide +kernel)) (fun _ h9 => h9) rfl dX4_as_53 ?_
        refine va_get (D := D) (ci := 1) (v := .ref (q 2)) (C := RX2) (T := TX2) (N := 12) hx hb hts (iT_X4_as_X2) hown hK hP 1 rfl rfl 6 (by decide) (hts (.fieldLink RX4 81 "WordSupper$Table" "kind" "[I") (by decide +kernel)) (fun _ h9 => h9) rfl dX4_as_56 ?_
        refine lv_iload_n hx hb dX4_as_59 rfl (lv_at hl 0 rfl) ?_
        refine x_iald hx hb hK hP 3 0 rfl rfl (T (90 + k0)).toNat (by omega) (by omega) (by decide) (T (cx (T (90 + k0)).toNat 0)) (gd_at _ (by omega)) dX4_as_60 ?_
        refine lv_iload_n hx hb dX4_as_61 rfl (lv_at hl 3 rfl) ?_
        refine x_callS (As := [.int (iI (T (cx (T (90 + k0)).toNat 0))), .int (iI kd)]) (rest := []) ⟨hx, hb, hml, hown, hts⟩ (kX0_isUnder (T (cx (T (90 + k0)).toNat 0)) kd (by omega) (by omega)) (va_cwS 2 hts gX4_as_X0_isUnder rfl rfl rfl ykSX0_isUnder ⟨Nat.le_of_ble_eq_true rfl, Nat.le_of_ble_eq_true rfl⟩) hP hK hD hS [] rfl (by decide) (fun _ => rfl) (fun _ => wObj x f q kq vq h g ik ++ (wTab cI q T (jc 0) ++ (wTab cI kq K (jc 1) ++ (wTab cI vq V (jc 2) ++ (wSh cI h SB SS SN ++ (wTp cB g tn TB jc ++ (wA cI f 7 F))))))) (fun _ => rfl) rfl hl.1 rfl (Nat.le_of_ble_eq_true rfl) dX4_as_62 ⟨Nat.le_of_ble_eq_true rfl, Nat.le_of_ble_eq_true rfl⟩ (fun _ H locs _ hP hD hS => ?_)
        refine W.eq (g2 := F0 m 65 ls [.int (iI (b2 (decide (uL 7 (T (cx (T (90 + k0)).toNat 0)) kd = true))))]) rfl ?_
        refine x_ifb_ne (tgt := 75) hx hb dX4_as_65 (by decide) (fun c_65 => ?_) (fun c_65 => ?_)
        · refine lv_iload_n hx hb dX4_as_75 rfl (lv_at hl 0 rfl) ?_
          exact kend ((T (90 + k0), T, K, ik, SB, SS, SN, tn, TB, F), V, jc) hP hS rfl (by unfold m_as; (try simp only [Int.toNat_natCast]); rw [if_neg (by omega), if_neg (by omega), if_pos (by rw [← uL_un hku (by omega)]; exact c_65)] <;> rfl) dX4_as_76
        · refine lv_aload_n hx hb dX4_as_68 rfl (lv_at hl 1 rfl) ?_
          refine x_ldc hx hb (-1000003) rfl hown (hts (.constant RX4 216 (-1000003)) (by decide +kernel)) dX4_as_69 ?_
          refine x_callV (As := [.int (iI (-1000003))]) (rest := []) ⟨hx, hb, hml, hown, hts⟩ (kX4_finding x f q kq vq h g ik F (-1000003) 2 (by omega) (by omega)) (cwV 1 hts gX4_as_X4_finding rfl rfl rfl ykVX4_finding ⟨Nat.le_of_ble_eq_true rfl, Nat.le_of_ble_eq_true rfl⟩) hP hK hD hS 0 3 rfl rfl rfl [0, 31] rfl (by decide) (fun _ => rfl) (fun _ => wObj x f q kq vq h g ik ++ (wTab cI q T (jc 0) ++ (wTab cI kq K (jc 1) ++ (wTab cI vq V (jc 2) ++ (wSh cI h SB SS SN ++ (wTp cB g tn TB jc ++ (wA cI f 7 (bmp 2 F)))))))) (fun _ => rfl) rfl hl.1 rfl (Nat.le_of_ble_eq_true rfl) dX4_as_71 ⟨Nat.le_of_ble_eq_true rfl, Nat.le_of_ble_eq_true rfl⟩ (fun _ H locs _ hP hD hS => ?_)
          refine W.eq (g2 := F0 m 74 ls [.int (iI (-1000003))]) rfl ?_
          exact kend (((-1000003), T, K, ik, SB, SS, SN, tn, TB, (bmp 2 F)), V, jc) hP hS rfl (by unfold m_as; (try simp only [Int.toNat_natCast]); rw [if_neg (by omega), if_neg (by omega), if_neg (by rw [← uL_un hku (by omega)]; exact c_65)] <;> rfl) dX4_as_74
      · refine lv_aload_n hx hb dX4_as_45 rfl (lv_at hl 1 rfl) ?_
        refine x_ldc hx hb (-1000006) rfl hown (hts (.constant RX4 212 (-1000006)) (by decide +kernel)) dX4_as_46 ?_
        refine x_callV (As := [.int (iI (-1000006))]) (rest := []) ⟨hx, hb, hml, hown, hts⟩ (kX4_finding x f q kq vq h g ik F (-1000006) 5 (by omega) (by omega)) (cwV 1 hts gX4_as_X4_finding rfl rfl rfl ykVX4_finding ⟨Nat.le_of_ble_eq_true rfl, Nat.le_of_ble_eq_true rfl⟩) hP hK hD hS 0 3 rfl rfl rfl [0, 31] rfl (by decide) (fun _ => rfl) (fun _ => wObj x f q kq vq h g ik ++ (wTab cI q T (jc 0) ++ (wTab cI kq K (jc 1) ++ (wTab cI vq V (jc 2) ++ (wSh cI h SB SS SN ++ (wTp cB g tn TB jc ++ (wA cI f 7 (bmp 5 F)))))))) (fun _ => rfl) rfl hl.1 rfl (Nat.le_of_ble_eq_true rfl) dX4_as_48 ⟨Nat.le_of_ble_eq_true rfl, Nat.le_of_ble_eq_true rfl⟩ (fun _ H locs _ hP hD hS => ?_)
        refine W.eq (g2 := F0 m 51 ls [.int (iI (-1000006))]) rfl ?_
        exact kend (((-1000006), T, K, ik, SB, SS, SN, tn, TB, (bmp 5 F)), V, jc) hP hS rfl (by unfold m_as; (try simp only [Int.toNat_natCast]); rw [if_neg (by omega), if_pos (by omega)] <;> rfl) dX4_as_51
    · refine lv_aload_n hx hb dX4_as_17 rfl (lv_at hl 0 rfl) ?_
      refine x_ldc hx hb (-1000001) rfl hown (hts (.constant RX4 44 (-1000001)) (by decide +kernel)) dX4_as_18 ?_
      refine x_callV (As := [.int (iI (-1000001))]) (rest := []) ⟨hx, hb, hml, hown, hts⟩ (kX4_finding x f q kq vq h g ik F (-1000001) 0 (by omega) (by omega)) (cwV 1 hts gX4_as_X4_finding rfl rfl rfl ykVX4_finding ⟨Nat.le_of_ble_eq_true rfl, Nat.le_of_ble_eq_true rfl⟩) hP hK hD hS 0 3 rfl rfl rfl [0, 31] rfl (by decide) (fun _ => rfl) (fun _ => wObj x f q kq vq h g ik ++ (wTab cI q T (jc 0) ++ (wTab cI kq K (jc 1) ++ (wTab cI vq V (jc 2) ++ (wSh cI h SB SS SN ++ (wTp cB g tn TB jc ++ (wA cI f 7 (bmp 0 F)))))))) (fun _ => rfl) rfl hl.1 rfl (Nat.le_of_ble_eq_true rfl) dX4_as_20 ⟨Nat.le_of_ble_eq_true rfl, Nat.le_of_ble_eq_true rfl⟩ (fun _ H locs _ hP hD hS => ?_)
      refine W.eq (g2 := F0 m 23 ls [.int (iI (-1000001))]) rfl ?_
      exact kend (((-1000001), T, K, ik, SB, SS, SN, tn, TB, (bmp 0 F)), V, jc) hP hS rfl ((if_pos (by omega))).symm dX4_as_23
theorem ykSX4_sheet : yX4_sheet.cls ≠ "java/lang/invoke/MethodHandle" ∧ yX4_sheet.cls ≠ "java/lang/invoke/VarHandle" ∧ (parseMethodDescriptor yX4_sheet.desc).map (fun d => d.parameters.length) = some 3 := by decide +kernel
theorem ykVX4_sheet : yX4_sheet.cls = RX4 ∧ yX4_sheet.cls ≠ "java/lang/invoke/MethodHandle" ∧ yX4_sheet.cls ≠ "java/lang/invoke/VarHandle" ∧ (parseMethodDescriptor yX4_sheet.desc).map (fun d => d.parameters.length) = some 3 := ⟨rfl, ykSX4_sheet⟩
set_option maxRecDepth 20000 in
theorem iT_X4_sheet_X4 : ∀ w ∈ u_ws RX4 TX4 7, w ∈ wsX4_sheet := by decide +kernel
set_option maxRecDepth 20000 in
theorem iT_X4_sheet_X1 : ∀ w ∈ u_ws RX1 TX1 3, w ∈ wsX4_sheet := by decide +kernel
set_option maxHeartbeats 4000000 in
set_option maxRecDepth 100000 in
theorem kX4_sheet {l : Launch} {D : va_G} {cI cB : ClassId} (x f : Nat) (q kq vq h g : Nat → Nat) (T K : Tb) (ik : Int) (SB SS SN : Nat → Int) (tn : Int) (TB F : Nat → Int) (V : Tb) (jc : Nat → Int) (s0 bt n : Int) (B : Int) (hG : GI B T K ik SB SS SN tn TB F) (hB : B ≤ 40000) (h_s0 : rI s0) (h_bt : rI bt) (h_n : rI n) : Ct l yX4_sheet wsX4_sheet 2 44 D [(cI, .int), (cB, .byte)] [.ref x, .int (iI s0), .int (iI bt), .int (iI n)] (wC cI cB x f q kq vq h g (T, K, ik, SB, SS, SN, tn, TB, F) V jc) (S := (Int × Gs) × Tb × (Nat → Int)) (fun u => some (.int (iI u.1.1))) (fun u => u.1 = m_sheet s0 bt n T K ik SB SS SN tn TB F) (fun u => wC cI cB x f q kq vq h g u.1.2 u.2.1 u.2.2) := by
  refine CtI.of (cc := cX4_sheet) (maxL := 5) (by decide +kernel) rfl (Nat.le_of_ble_eq_true rfl) ?_
  intro pg e s m args below meth c Q A hx hb hml hts hown hP hK hD hS ls hl kend
  have hown : s.vm.findClass RX4 = some m.cls := hown
  have hl : lv_has ls 5 [(0, .ref x), (1, .int (iI s0)), (2, .int (iI bt)), (3, .int (iI n))] := hl
  obtain ⟨hI, hIK, hik, hSB, hSS, hSN, htn, hTB, hF⟩ := id hG
  have hn := Inv_n hI
  have hdy := Inv_d hI
  have hP : va_P D vwCl (wObj x f q kq vq h g ik ++ (wTab cI q T (jc 0) ++ (wTab cI kq K (jc 1) ++ (wTab cI vq V (jc 2) ++ (wSh cI h SB SS SN ++ (wTp cB g tn TB jc ++ (wA cI f 7 F))))))) s.heap := hP
  have hD : va_D A (wObj x f q kq vq h g ik ++ (wTab cI q T (jc 0) ++ (wTab cI kq K (jc 1) ++ (wTab cI vq V (jc 2) ++ (wSh cI h SB SS SN ++ (wTp cB g tn TB jc ++ (wA cI f 7 F))))))) := hD
  refine lv_iload_n hx hb dX4_sheet_0 rfl (lv_at hl 2 rfl) ?_
  refine x_if_eq (tgt := 22) hx hb (by omega) dX4_sheet_1 (by decide) (fun c_1 => ?_) (fun c_1 => ?_)
  · refine x_iconst hx hb dX4_sheet_22 ?_
    refine lv_goto (tgt := 27) hx hb dX4_sheet_23 (by decide) ?_
    refine lv_istore (lv' := [(4, .int (iI 1)), (0, .ref x), (1, .int (iI s0)), (2, .int (iI bt)), (3, .int (iI n))]) hx hb dX4_sheet_27 hl (by decide) rfl (fun ls hl => ?_)
    refine lv_iload_n hx hb dX4_sheet_29 rfl (lv_at hl 2 rfl) ?_
    refine x_callS (As := [.int (iI s0)]) (rest := []) ⟨hx, hb, hml, hown, hts⟩ (kX1_isSheet s0 (by omega)) (va_cwS 1 hts gX4_sheet_X1_isSheet rfl rfl rfl ykSX1_isSheet ⟨Nat.le_of_ble_eq_true rfl, Nat.le_of_ble_eq_true rfl⟩) hP hK hD hS [] rfl (by decide) (fun _ => rfl) (fun _ => wObj x f q kq vq h g ik ++ (wTab cI q T (jc 0) ++ (wTab cI kq K (jc 1) ++ (wTab cI vq V (jc 2) ++ (wSh cI h SB SS SN ++ (wTp cB g tn TB jc ++ (wA cI f 7 F))))))) (fun _ => rfl) rfl hl.1 rfl (Nat.le_of_ble_eq_true rfl) dX4_sheet_30 ⟨Nat.le_of_ble_eq_true rfl, Nat.le_of_ble_eq_true rfl⟩ (fun _ H locs _ hP hD hS => ?_)
    refine W.eq (g2 := F0 m 33 ls [.int (iI (b2 (decide (0 ≤ s0 ∧ s0 < 4))))]) rfl ?_
    refine x_ifb_eq (tgt := 41) hx hb dX4_sheet_33 (by decide) (fun c_33 => ?_) (fun c_33 => ?_)
    · refine lv_aload_n hx hb dX4_sheet_41 rfl (lv_at hl 1 rfl) ?_
      refine x_ldc hx hb (-1000001) rfl hown (hts (.constant RX4 44 (-1000001)) (by decide +kernel)) dX4_sheet_42 ?_
      refine x_callV (As := [.int (iI (-1000001))]) (rest := []) ⟨hx, hb, hml, hown, hts⟩ (kX4_finding x f q kq vq h g ik F (-1000001) 0 (by omega) (by omega)) (cwV 1 hts gX4_sheet_X4_finding rfl rfl rfl ykVX4_finding ⟨Nat.le_of_ble_eq_true rfl, Nat.le_of_ble_eq_true rfl⟩) hP hK hD hS 0 3 rfl rfl rfl [0, 31] rfl (by decide) (fun _ => rfl) (fun _ => wObj x f q kq vq h g ik ++ (wTab cI q T (jc 0) ++ (wTab cI kq K (jc 1) ++ (wTab cI vq V (jc 2) ++ (wSh cI h SB SS SN ++ (wTp cB g tn TB jc ++ (wA cI f 7 (bmp 0 F)))))))) (fun _ => rfl) rfl hl.1 rfl (Nat.le_of_ble_eq_true rfl) dX4_sheet_44 ⟨Nat.le_of_ble_eq_true rfl, Nat.le_of_ble_eq_true rfl⟩ (fun _ H locs _ hP hD hS => ?_)
      refine W.eq (g2 := F0 m 47 ls [.int (iI (-1000001))]) rfl ?_
      exact kend (((-1000001), T, K, ik, SB, SS, SN, tn, TB, (bmp 0 F)), V, jc) hP hS rfl (by first | exact ((if_pos (by omega))).symm | exact (((if_neg (by omega)).trans ((if_neg (by omega)).trans (if_pos (by omega))))).symm) dX4_sheet_47
    · refine lv_iload hx hb dX4_sheet_36 (lv_at hl 0 rfl) ?_
      refine x_if_ne (tgt := 48) hx hb (by decide) dX4_sheet_38 (by decide) (fun c_38 => ?_) (fun c_38 => ?_)
      · refine lv_iload_n hx hb dX4_sheet_48 rfl (lv_at hl 4 rfl) ?_
        refine x_if_ge (tgt := 59) hx hb (by omega) dX4_sheet_49 (by decide) (fun c_49 => ?_) (fun c_49 => ?_)
        · refine lv_iload_n hx hb dX4_sheet_59 rfl (lv_at hl 4 rfl) ?_
          refine x_bipush hx hb dX4_sheet_60 (by decide) ?_
          refine x_icmp_le (tgt := 72) hx hb (by omega) (by decide) dX4_sheet_62 (by decide) (fun c_62 => ?_) (fun c_62 => ?_)
          · obtain ⟨s1, rfl⟩ : ∃ s1 : Nat, s0 = (s1 : Int) := ⟨s0.toNat, by omega⟩
            refine lv_aload_n hx hb dX4_sheet_72 rfl (lv_at hl 1 rfl) ?_
            refine va_get (D := D) (ci := 3) (v := .ref (h 0)) (C := RX4) (T := TX4) (N := 7) hx hb hts (iT_X4_sheet_X4) hown hK hP 0 rfl rfl 3 (by decide) (hts (.fieldLink RX4 25 "WordSupper" "sheets" "LWordSupper$Sheets;") (by decide +kernel)) (fun _ h9 => h9) rfl dX4_sheet_73 ?_
            refine lv_iload_n hx hb dX4_sheet_76 rfl (lv_at hl 2 rfl) ?_
            refine lv_iload_n hx hb dX4_sheet_77 rfl (lv_at hl 3 rfl) ?_
            refine lv_iload_n hx hb dX4_sheet_78 rfl (lv_at hl 3 rfl) ?_
            refine x_if_ne (tgt := 86) hx hb (by omega) dX4_sheet_79 (by decide) (fun c_79 => ?_) (fun c_79 => ?_)
            · refine lv_iload_n hx hb dX4_sheet_86 rfl (lv_at hl 4 rfl) ?_
              refine x_callV (As := [.int (iI ((s1 : Nat) : Int)), .int (iI bt), .int (iI n)]) (rest := []) ⟨hx, hb, hml, hown, hts⟩ (kX1_lay h SB SS SN s1 bt n (by omega)) (cwV 3 hts gX4_sheet_X1_lay rfl rfl rfl ykVX1_lay ⟨Nat.le_of_ble_eq_true rfl, Nat.le_of_ble_eq_true rfl⟩) hP hK hD hS 25 0 rfl rfl rfl [25, 26, 27, 28] rfl (by decide) (fun _ => rfl) (fun u => wObj x f q kq vq h g ik ++ (wTab cI q T (jc 0) ++ (wTab cI kq K (jc 1) ++ (wTab cI vq V (jc 2) ++ (wSh cI h (va_up SB s1 bt) (va_up SS s1 n) u ++ (wTp cB g tn TB jc ++ (wA cI f 7 F))))))) (fun _ => rfl) rfl hl.1 rfl (Nat.le_of_ble_eq_true rfl) dX4_sheet_87 ⟨Nat.le_of_ble_eq_true rfl, Nat.le_of_ble_eq_true rfl⟩ (fun u2 H locs hp3 hP hD hS => ?_)
              obtain ⟨N11, rfl⟩ : ∃ z, z = u2 := ⟨_, rfl⟩
              replace hp3 : N11 = zeF (40 * s1) 40 0 SN := hp3
              have hP : va_P D vwCl (wObj x f q kq vq h g ik ++ (wTab cI q T (jc 0) ++ (wTab cI kq K (jc 1) ++ (wTab cI vq V (jc 2) ++ (wSh cI h (va_up SB s1 bt) (va_up SS s1 n) N11 ++ (wTp cB g tn TB jc ++ (wA cI f 7 F))))))) H := hP
              have hD : va_D A (wObj x f q kq vq h g ik ++ (wTab cI q T (jc 0) ++ (wTab cI kq K (jc 1) ++ (wTab cI vq V (jc 2) ++ (wSh cI h (va_up SB s1 bt) (va_up SS s1 n) N11 ++ (wTp cB g tn TB jc ++ (wA cI f 7 F))))))) := hD
              refine W.eq (g2 := F0 m 90 ls []) rfl ?_
              refine lv_aload_n hx hb dX4_sheet_90 rfl (lv_at hl 1 rfl) ?_
              refine va_get (D := D) (ci := 3) (v := .ref (h 0)) (C := RX4) (T := TX4) (N := 7) hx hb hts (iT_X4_sheet_X4) hown hK hP 0 rfl rfl 3 (by decide) (hts (.fieldLink RX4 25 "WordSupper" "sheets" "LWordSupper$Sheets;") (by decide +kernel)) (fun _ h9 => h9) rfl dX4_sheet_91 ?_
              refine va_get (D := D) (ci := 0) (v := .ref (h 2)) (C := RX1) (T := TX1) (N := 3) hx hb hts (iT_X4_sheet_X1) hown hK hP 25 rfl rfl 1 (by decide) (hts (.fieldLink RX4 180 "WordSupper$Sheets" "size" "[I") (by decide +kernel)) (fun _ h9 => h9) rfl dX4_sheet_94 ?_
              refine lv_iload_n hx hb dX4_sheet_97 rfl (lv_at hl 2 rfl) ?_
              refine x_iald hx hb hK hP 27 0 rfl rfl s1 rfl (by omega) (by decide) ((va_up SS s1 n) s1) (gd_at _ (by omega)) dX4_sheet_98 ?_
              exact kend (((va_up SS s1 n) s1, T, K, ik, va_up SB s1 bt, va_up SS s1 n, N11, tn, TB, F), V, jc) hP hS rfl (by rw [hp3]; unfold m_sheet; rw [if_neg (by omega), if_neg (by omega), if_neg (by omega), if_neg (by omega), Int.toNat_natCast, up_s]) dX4_sheet_99
            · refine x_iconst hx hb dX4_sheet_82 ?_
              refine lv_goto (tgt := 87) hx hb dX4_sheet_83 (by decide) ?_
              refine x_callV (As := [.int (iI ((s1 : Nat) : Int)), .int (iI bt), .int (iI 0)]) (rest := []) ⟨hx, hb, hml, hown, hts⟩ (kX1_lay h SB SS SN s1 bt 0 (by omega)) (cwV 3 hts gX4_sheet_X1_lay rfl rfl rfl ykVX1_lay ⟨Nat.le_of_ble_eq_true rfl, Nat.le_of_ble_eq_true rfl⟩) hP hK hD hS 25 0 rfl rfl rfl [25, 26, 27, 28] rfl (by decide) (fun _ => rfl) (fun u => wObj x f q kq vq h g ik ++ (wTab cI q T (jc 0) ++ (wTab cI kq K (jc 1) ++ (wTab cI vq V (jc 2) ++ (wSh cI h (va_up SB s1 bt) (va_up SS s1 0) u ++ (wTp cB g tn TB jc ++ (wA cI f 7 F))))))) (fun _ => rfl) rfl hl.1 rfl (Nat.le_of_ble_eq_true rfl) dX4_sheet_87 ⟨Nat.le_of_ble_eq_true rfl, Nat.le_of_ble_eq_true rfl⟩ (fun u5 H locs hp6 hP hD hS => ?_)
              obtain ⟨N14, rfl⟩ : ∃ z, z = u5 := ⟨_, rfl⟩
              replace hp6 : N14 = zeF (40 * s1) 40 0 SN := hp6
              have hP : va_P D vwCl (wObj x f q kq vq h g ik ++ (wTab cI q T (jc 0) ++ (wTab cI kq K (jc 1) ++ (wTab cI vq V (jc 2) ++ (wSh cI h (va_up SB s1 bt) (va_up SS s1 0) N14 ++ (wTp cB g tn TB jc ++ (wA cI f 7 F))))))) H := hP
              have hD : va_D A (wObj x f q kq vq h g ik ++ (wTab cI q T (jc 0) ++ (wTab cI kq K (jc 1) ++ (wTab cI vq V (jc 2) ++ (wSh cI h (va_up SB s1 bt) (va_up SS s1 0) N14 ++ (wTp cB g tn TB jc ++ (wA cI f 7 F))))))) := hD
              refine W.eq (g2 := F0 m 90 ls []) rfl ?_
              refine lv_aload_n hx hb dX4_sheet_90 rfl (lv_at hl 1 rfl) ?_
              refine va_get (D := D) (ci := 3) (v := .ref (h 0)) (C := RX4) (T := TX4) (N := 7) hx hb hts (iT_X4_sheet_X4) hown hK hP 0 rfl rfl 3 (by decide) (hts (.fieldLink RX4 25 "WordSupper" "sheets" "LWordSupper$Sheets;") (by decide +kernel)) (fun _ h9 => h9) rfl dX4_sheet_91 ?_
              refine va_get (D := D) (ci := 0) (v := .ref (h 2)) (C := RX1) (T := TX1) (N := 3) hx hb hts (iT_X4_sheet_X1) hown hK hP 25 rfl rfl 1 (by decide) (hts (.fieldLink RX4 180 "WordSupper$Sheets" "size" "[I") (by decide +kernel)) (fun _ h9 => h9) rfl dX4_sheet_94 ?_
              refine lv_iload_n hx hb dX4_sheet_97 rfl (lv_at hl 2 rfl) ?_
              refine x_iald hx hb hK hP 27 0 rfl rfl s1 rfl (by omega) (by decide) ((va_up SS s1 0) s1) (gd_at _ (by omega)) dX4_sheet_98 ?_
              exact kend (((va_up SS s1 0) s1, T, K, ik, va_up SB s1 bt, va_up SS s1 0, N14, tn, TB, F), V, jc) hP hS rfl (by rw [hp6]; unfold m_sheet; rw [if_neg (by omega), if_neg (by omega), if_neg (by omega), if_pos (by omega), Int.toNat_natCast, up_s]) dX4_sheet_99
          · refine lv_aload_n hx hb dX4_sheet_65 rfl (lv_at hl 1 rfl) ?_
            refine x_ldc hx hb (-1000001) rfl hown (hts (.constant RX4 44 (-1000001)) (by decide +kernel)) dX4_sheet_66 ?_
            refine x_callV (As := [.int (iI (-1000001))]) (rest := []) ⟨hx, hb, hml, hown, hts⟩ (kX4_finding x f q kq vq h g ik F (-1000001) 0 (by omega) (by omega)) (cwV 1 hts gX4_sheet_X4_finding rfl rfl rfl ykVX4_finding ⟨Nat.le_of_ble_eq_true rfl, Nat.le_of_ble_eq_true rfl⟩) hP hK hD hS 0 3 rfl rfl rfl [0, 31] rfl (by decide) (fun _ => rfl) (fun _ => wObj x f q kq vq h g ik ++ (wTab cI q T (jc 0) ++ (wTab cI kq K (jc 1) ++ (wTab cI vq V (jc 2) ++ (wSh cI h SB SS SN ++ (wTp cB g tn TB jc ++ (wA cI f 7 (bmp 0 F)))))))) (fun _ => rfl) rfl hl.1 rfl (Nat.le_of_ble_eq_true rfl) dX4_sheet_68 ⟨Nat.le_of_ble_eq_true rfl, Nat.le_of_ble_eq_true rfl⟩ (fun _ H locs _ hP hD hS => ?_)
            refine W.eq (g2 := F0 m 71 ls [.int (iI (-1000001))]) rfl ?_
            exact kend (((-1000001), T, K, ik, SB, SS, SN, tn, TB, (bmp 0 F)), V, jc) hP hS rfl (by first | exact ((if_pos (by omega))).symm | exact (((if_neg (by omega)).trans ((if_neg (by omega)).trans (if_pos (by omega))))).symm) dX4_sheet_71
        · refine lv_aload_n hx hb dX4_sheet_52 rfl (lv_at hl 1 rfl) ?_
          refine x_ldc hx hb (-1000007) rfl hown (hts (.constant RX4 220 (-1000007)) (by decide +kernel)) dX4_sheet_53 ?_
          refine x_callV (As := [.int (iI (-1000007))]) (rest := []) ⟨hx, hb, hml, hown, hts⟩ (kX4_finding x f q kq vq h g ik F (-1000007) 6 (by omega) (by omega)) (cwV 1 hts gX4_sheet_X4_finding rfl rfl rfl ykVX4_finding ⟨Nat.le_of_ble_eq_true rfl, Nat.le_of_ble_eq_true rfl⟩) hP hK hD hS 0 3 rfl rfl rfl [0, 31] rfl (by decide) (fun _ => rfl) (fun _ => wObj x f q kq vq h g ik ++ (wTab cI q T (jc 0) ++ (wTab cI kq K (jc 1) ++ (wTab cI vq V (jc 2) ++ (wSh cI h SB SS SN ++ (wTp cB g tn TB jc ++ (wA cI f 7 (bmp 6 F)))))))) (fun _ => rfl) rfl hl.1 rfl (Nat.le_of_ble_eq_true rfl) dX4_sheet_55 ⟨Nat.le_of_ble_eq_true rfl, Nat.le_of_ble_eq_true rfl⟩ (fun _ H locs _ hP hD hS => ?_)
          refine W.eq (g2 := F0 m 58 ls [.int (iI (-1000007))]) rfl ?_
          exact kend (((-1000007), T, K, ik, SB, SS, SN, tn, TB, (bmp 6 F)), V, jc) hP hS rfl (((if_neg (by omega)).trans (if_pos (by omega)))).symm dX4_sheet_58
      · exact absurd c_38 (by decide)
  · refine lv_iload_n hx hb dX4_sheet_4 rfl (lv_at hl 2 rfl) ?_
    refine x_bipush hx hb dX4_sheet_5 (by decide) ?_
    refine x_icmp_eq (tgt := 22) hx hb (by omega) (by decide) dX4_sheet_7 (by decide) (fun c_7 => ?_) (fun c_7 => ?_)
    · refine x_iconst hx hb dX4_sheet_22 ?_
      refine lv_goto (tgt := 27) hx hb dX4_sheet_23 (by decide) ?_
      refine lv_istore (lv' := [(4, .int (iI 1)), (0, .ref x), (1, .int (iI s0)), (2, .int (iI bt)), (3, .int (iI n))]) hx hb dX4_sheet_27 hl (by decide) rfl (fun ls hl => ?_)
      refine lv_iload_n hx hb dX4_sheet_29 rfl (lv_at hl 2 rfl) ?_
      refine x_callS (As := [.int (iI s0)]) (rest := []) ⟨hx, hb, hml, hown, hts⟩ (kX1_isSheet s0 (by omega)) (va_cwS 1 hts gX4_sheet_X1_isSheet rfl rfl rfl ykSX1_isSheet ⟨Nat.le_of_ble_eq_true rfl, Nat.le_of_ble_eq_true rfl⟩) hP hK hD hS [] rfl (by decide) (fun _ => rfl) (fun _ => wObj x f q kq vq h g ik ++ (wTab cI q T (jc 0) ++ (wTab cI kq K (jc 1) ++ (wTab cI vq V (jc 2) ++ (wSh cI h SB SS SN ++ (wTp cB g tn TB jc ++ (wA cI f 7 F))))))) (fun _ => rfl) rfl hl.1 rfl (Nat.le_of_ble_eq_true rfl) dX4_sheet_30 ⟨Nat.le_of_ble_eq_true rfl, Nat.le_of_ble_eq_true rfl⟩ (fun _ H locs _ hP hD hS => ?_)
      refine W.eq (g2 := F0 m 33 ls [.int (iI (b2 (decide (0 ≤ s0 ∧ s0 < 4))))]) rfl ?_
      refine x_ifb_eq (tgt := 41) hx hb dX4_sheet_33 (by decide) (fun c_33 => ?_) (fun c_33 => ?_)
      · refine lv_aload_n hx hb dX4_sheet_41 rfl (lv_at hl 1 rfl) ?_
        refine x_ldc hx hb (-1000001) rfl hown (hts (.constant RX4 44 (-1000001)) (by decide +kernel)) dX4_sheet_42 ?_
        refine x_callV (As := [.int (iI (-1000001))]) (rest := []) ⟨hx, hb, hml, hown, hts⟩ (kX4_finding x f q kq vq h g ik F (-1000001) 0 (by omega) (by omega)) (cwV 1 hts gX4_sheet_X4_finding rfl rfl rfl ykVX4_finding ⟨Nat.le_of_ble_eq_true rfl, Nat.le_of_ble_eq_true rfl⟩) hP hK hD hS 0 3 rfl rfl rfl [0, 31] rfl (by decide) (fun _ => rfl) (fun _ => wObj x f q kq vq h g ik ++ (wTab cI q T (jc 0) ++ (wTab cI kq K (jc 1) ++ (wTab cI vq V (jc 2) ++ (wSh cI h SB SS SN ++ (wTp cB g tn TB jc ++ (wA cI f 7 (bmp 0 F)))))))) (fun _ => rfl) rfl hl.1 rfl (Nat.le_of_ble_eq_true rfl) dX4_sheet_44 ⟨Nat.le_of_ble_eq_true rfl, Nat.le_of_ble_eq_true rfl⟩ (fun _ H locs _ hP hD hS => ?_)
        refine W.eq (g2 := F0 m 47 ls [.int (iI (-1000001))]) rfl ?_
        exact kend (((-1000001), T, K, ik, SB, SS, SN, tn, TB, (bmp 0 F)), V, jc) hP hS rfl (by first | exact ((if_pos (by omega))).symm | exact (((if_neg (by omega)).trans ((if_neg (by omega)).trans (if_pos (by omega))))).symm) dX4_sheet_47
      · refine lv_iload hx hb dX4_sheet_36 (lv_at hl 0 rfl) ?_
        refine x_if_ne (tgt := 48) hx hb (by decide) dX4_sheet_38 (by decide) (fun c_38 => ?_) (fun c_38 => ?_)
        · refine lv_iload_n hx hb dX4_sheet_48 rfl (lv_at hl 4 rfl) ?_
          refine x_if_ge (tgt := 59) hx hb (by omega) dX4_sheet_49 (by decide) (fun c_49 => ?_) (fun c_49 => ?_)
          · refine lv_iload_n hx hb dX4_sheet_59 rfl (lv_at hl 4 rfl) ?_
            refine x_bipush hx hb dX4_sheet_60 (by decide) ?_
            refine x_icmp_le (tgt := 72) hx hb (by omega) (by decide) dX4_sheet_62 (by decide) (fun c_62 => ?_) (fun c_62 => ?_)
            · obtain ⟨s1, rfl⟩ : ∃ s1 : Nat, s0 = (s1 : Int) := ⟨s0.toNat, by omega⟩
              refine lv_aload_n hx hb dX4_sheet_72 rfl (lv_at hl 1 rfl) ?_
              refine va_get (D := D) (ci := 3) (v := .ref (h 0)) (C := RX4) (T := TX4) (N := 7) hx hb hts (iT_X4_sheet_X4) hown hK hP 0 rfl rfl 3 (by decide) (hts (.fieldLink RX4 25 "WordSupper" "sheets" "LWordSupper$Sheets;") (by decide +kernel)) (fun _ h9 => h9) rfl dX4_sheet_73 ?_
              refine lv_iload_n hx hb dX4_sheet_76 rfl (lv_at hl 2 rfl) ?_
              refine lv_iload_n hx hb dX4_sheet_77 rfl (lv_at hl 3 rfl) ?_
              refine lv_iload_n hx hb dX4_sheet_78 rfl (lv_at hl 3 rfl) ?_
              refine x_if_ne (tgt := 86) hx hb (by omega) dX4_sheet_79 (by decide) (fun c_79 => ?_) (fun c_79 => ?_)
              · refine lv_iload_n hx hb dX4_sheet_86 rfl (lv_at hl 4 rfl) ?_
                refine x_callV (As := [.int (iI ((s1 : Nat) : Int)), .int (iI bt), .int (iI n)]) (rest := []) ⟨hx, hb, hml, hown, hts⟩ (kX1_lay h SB SS SN s1 bt n (by omega)) (cwV 3 hts gX4_sheet_X1_lay rfl rfl rfl ykVX1_lay ⟨Nat.le_of_ble_eq_true rfl, Nat.le_of_ble_eq_true rfl⟩) hP hK hD hS 25 0 rfl rfl rfl [25, 26, 27, 28] rfl (by decide) (fun _ => rfl) (fun u => wObj x f q kq vq h g ik ++ (wTab cI q T (jc 0) ++ (wTab cI kq K (jc 1) ++ (wTab cI vq V (jc 2) ++ (wSh cI h (va_up SB s1 bt) (va_up SS s1 n) u ++ (wTp cB g tn TB jc ++ (wA cI f 7 F))))))) (fun _ => rfl) rfl hl.1 rfl (Nat.le_of_ble_eq_true rfl) dX4_sheet_87 ⟨Nat.le_of_ble_eq_true rfl, Nat.le_of_ble_eq_true rfl⟩ (fun u8 H locs hp9 hP hD hS => ?_)
                obtain ⟨N17, rfl⟩ : ∃ z, z = u8 := ⟨_, rfl⟩
                replace hp9 : N17 = zeF (40 * s1) 40 0 SN := hp9
                have hP : va_P D vwCl (wObj x f q kq vq h g ik ++ (wTab cI q T (jc 0) ++ (wTab cI kq K (jc 1) ++ (wTab cI vq V (jc 2) ++ (wSh cI h (va_up SB s1 bt) (va_up SS s1 n) N17 ++ (wTp cB g tn TB jc ++ (wA cI f 7 F))))))) H := hP
                have hD : va_D A (wObj x f q kq vq h g ik ++ (wTab cI q T (jc 0) ++ (wTab cI kq K (jc 1) ++ (wTab cI vq V (jc 2) ++ (wSh cI h (va_up SB s1 bt) (va_up SS s1 n) N17 ++ (wTp cB g tn TB jc ++ (wA cI f 7 F))))))) := hD
                refine W.eq (g2 := F0 m 90 ls []) rfl ?_
                refine lv_aload_n hx hb dX4_sheet_90 rfl (lv_at hl 1 rfl) ?_
                refine va_get (D := D) (ci := 3) (v := .ref (h 0)) (C := RX4) (T := TX4) (N := 7) hx hb hts (iT_X4_sheet_X4) hown hK hP 0 rfl rfl 3 (by decide) (hts (.fieldLink RX4 25 "WordSupper" "sheets" "LWordSupper$Sheets;") (by decide +kernel)) (fun _ h9 => h9) rfl dX4_sheet_91 ?_
                refine va_get (D := D) (ci := 0) (v := .ref (h 2)) (C := RX1) (T := TX1) (N := 3) hx hb hts (iT_X4_sheet_X1) hown hK hP 25 rfl rfl 1 (by decide) (hts (.fieldLink RX4 180 "WordSupper$Sheets" "size" "[I") (by decide +kernel)) (fun _ h9 => h9) rfl dX4_sheet_94 ?_
                refine lv_iload_n hx hb dX4_sheet_97 rfl (lv_at hl 2 rfl) ?_
                refine x_iald hx hb hK hP 27 0 rfl rfl s1 rfl (by omega) (by decide) ((va_up SS s1 n) s1) (gd_at _ (by omega)) dX4_sheet_98 ?_
                exact kend (((va_up SS s1 n) s1, T, K, ik, va_up SB s1 bt, va_up SS s1 n, N17, tn, TB, F), V, jc) hP hS rfl (by rw [hp9]; unfold m_sheet; rw [if_neg (by omega), if_neg (by omega), if_neg (by omega), if_neg (by omega), Int.toNat_natCast, up_s]) dX4_sheet_99
              · refine x_iconst hx hb dX4_sheet_82 ?_
                refine lv_goto (tgt := 87) hx hb dX4_sheet_83 (by decide) ?_
                refine x_callV (As := [.int (iI ((s1 : Nat) : Int)), .int (iI bt), .int (iI 0)]) (rest := []) ⟨hx, hb, hml, hown, hts⟩ (kX1_lay h SB SS SN s1 bt 0 (by omega)) (cwV 3 hts gX4_sheet_X1_lay rfl rfl rfl ykVX1_lay ⟨Nat.le_of_ble_eq_true rfl, Nat.le_of_ble_eq_true rfl⟩) hP hK hD hS 25 0 rfl rfl rfl [25, 26, 27, 28] rfl (by decide) (fun _ => rfl) (fun u => wObj x f q kq vq h g ik ++ (wTab cI q T (jc 0) ++ (wTab cI kq K (jc 1) ++ (wTab cI vq V (jc 2) ++ (wSh cI h (va_up SB s1 bt) (va_up SS s1 0) u ++ (wTp cB g tn TB jc ++ (wA cI f 7 F))))))) (fun _ => rfl) rfl hl.1 rfl (Nat.le_of_ble_eq_true rfl) dX4_sheet_87 ⟨Nat.le_of_ble_eq_true rfl, Nat.le_of_ble_eq_true rfl⟩ (fun u11 H locs hp12 hP hD hS => ?_)
                obtain ⟨N110, rfl⟩ : ∃ z, z = u11 := ⟨_, rfl⟩
                replace hp12 : N110 = zeF (40 * s1) 40 0 SN := hp12
                have hP : va_P D vwCl (wObj x f q kq vq h g ik ++ (wTab cI q T (jc 0) ++ (wTab cI kq K (jc 1) ++ (wTab cI vq V (jc 2) ++ (wSh cI h (va_up SB s1 bt) (va_up SS s1 0) N110 ++ (wTp cB g tn TB jc ++ (wA cI f 7 F))))))) H := hP
                have hD : va_D A (wObj x f q kq vq h g ik ++ (wTab cI q T (jc 0) ++ (wTab cI kq K (jc 1) ++ (wTab cI vq V (jc 2) ++ (wSh cI h (va_up SB s1 bt) (va_up SS s1 0) N110 ++ (wTp cB g tn TB jc ++ (wA cI f 7 F))))))) := hD
                refine W.eq (g2 := F0 m 90 ls []) rfl ?_
                refine lv_aload_n hx hb dX4_sheet_90 rfl (lv_at hl 1 rfl) ?_
                refine va_get (D := D) (ci := 3) (v := .ref (h 0)) (C := RX4) (T := TX4) (N := 7) hx hb hts (iT_X4_sheet_X4) hown hK hP 0 rfl rfl 3 (by decide) (hts (.fieldLink RX4 25 "WordSupper" "sheets" "LWordSupper$Sheets;") (by decide +kernel)) (fun _ h9 => h9) rfl dX4_sheet_91 ?_
                refine va_get (D := D) (ci := 0) (v := .ref (h 2)) (C := RX1) (T := TX1) (N := 3) hx hb hts (iT_X4_sheet_X1) hown hK hP 25 rfl rfl 1 (by decide) (hts (.fieldLink RX4 180 "WordSupper$Sheets" "size" "[I") (by decide +kernel)) (fun _ h9 => h9) rfl dX4_sheet_94 ?_
                refine lv_iload_n hx hb dX4_sheet_97 rfl (lv_at hl 2 rfl) ?_
                refine x_iald hx hb hK hP 27 0 rfl rfl s1 rfl (by omega) (by decide) ((va_up SS s1 0) s1) (gd_at _ (by omega)) dX4_sheet_98 ?_
                exact kend (((va_up SS s1 0) s1, T, K, ik, va_up SB s1 bt, va_up SS s1 0, N110, tn, TB, F), V, jc) hP hS rfl (by rw [hp12]; unfold m_sheet; rw [if_neg (by omega), if_neg (by omega), if_neg (by omega), if_pos (by omega), Int.toNat_natCast, up_s]) dX4_sheet_99
            · refine lv_aload_n hx hb dX4_sheet_65 rfl (lv_at hl 1 rfl) ?_
              refine x_ldc hx hb (-1000001) rfl hown (hts (.constant RX4 44 (-1000001)) (by decide +kernel)) dX4_sheet_66 ?_
              refine x_callV (As := [.int (iI (-1000001))]) (rest := []) ⟨hx, hb, hml, hown, hts⟩ (kX4_finding x f q kq vq h g ik F (-1000001) 0 (by omega) (by omega)) (cwV 1 hts gX4_sheet_X4_finding rfl rfl rfl ykVX4_finding ⟨Nat.le_of_ble_eq_true rfl, Nat.le_of_ble_eq_true rfl⟩) hP hK hD hS 0 3 rfl rfl rfl [0, 31] rfl (by decide) (fun _ => rfl) (fun _ => wObj x f q kq vq h g ik ++ (wTab cI q T (jc 0) ++ (wTab cI kq K (jc 1) ++ (wTab cI vq V (jc 2) ++ (wSh cI h SB SS SN ++ (wTp cB g tn TB jc ++ (wA cI f 7 (bmp 0 F)))))))) (fun _ => rfl) rfl hl.1 rfl (Nat.le_of_ble_eq_true rfl) dX4_sheet_68 ⟨Nat.le_of_ble_eq_true rfl, Nat.le_of_ble_eq_true rfl⟩ (fun _ H locs _ hP hD hS => ?_)
              refine W.eq (g2 := F0 m 71 ls [.int (iI (-1000001))]) rfl ?_
              exact kend (((-1000001), T, K, ik, SB, SS, SN, tn, TB, (bmp 0 F)), V, jc) hP hS rfl (by first | exact ((if_pos (by omega))).symm | exact (((if_neg (by omega)).trans ((if_neg (by omega)).trans (if_pos (by omega))))).symm) dX4_sheet_71
          · refine lv_aload_n hx hb dX4_sheet_52 rfl (lv_at hl 1 rfl) ?_
            refine x_ldc hx hb (-1000007) rfl hown (hts (.constant RX4 220 (-1000007)) (by decide +kernel)) dX4_sheet_53 ?_
            refine x_callV (As := [.int (iI (-1000007))]) (rest := []) ⟨hx, hb, hml, hown, hts⟩ (kX4_finding x f q kq vq h g ik F (-1000007) 6 (by omega) (by omega)) (cwV 1 hts gX4_sheet_X4_finding rfl rfl rfl ykVX4_finding ⟨Nat.le_of_ble_eq_true rfl, Nat.le_of_ble_eq_true rfl⟩) hP hK hD hS 0 3 rfl rfl rfl [0, 31] rfl (by decide) (fun _ => rfl) (fun _ => wObj x f q kq vq h g ik ++ (wTab cI q T (jc 0) ++ (wTab cI kq K (jc 1) ++ (wTab cI vq V (jc 2) ++ (wSh cI h SB SS SN ++ (wTp cB g tn TB jc ++ (wA cI f 7 (bmp 6 F)))))))) (fun _ => rfl) rfl hl.1 rfl (Nat.le_of_ble_eq_true rfl) dX4_sheet_55 ⟨Nat.le_of_ble_eq_true rfl, Nat.le_of_ble_eq_true rfl⟩ (fun _ H locs _ hP hD hS => ?_)
            refine W.eq (g2 := F0 m 58 ls [.int (iI (-1000007))]) rfl ?_
            exact kend (((-1000007), T, K, ik, SB, SS, SN, tn, TB, (bmp 6 F)), V, jc) hP hS rfl (((if_neg (by omega)).trans (if_pos (by omega)))).symm dX4_sheet_58
        · exact absurd c_38 (by decide)
    · refine lv_iload_n hx hb dX4_sheet_10 rfl (lv_at hl 2 rfl) ?_
      refine x_bipush hx hb dX4_sheet_11 (by decide) ?_
      refine x_icmp_eq (tgt := 22) hx hb (by omega) (by decide) dX4_sheet_13 (by decide) (fun c_13 => ?_) (fun c_13 => ?_)
      · refine x_iconst hx hb dX4_sheet_22 ?_
        refine lv_goto (tgt := 27) hx hb dX4_sheet_23 (by decide) ?_
        refine lv_istore (lv' := [(4, .int (iI 1)), (0, .ref x), (1, .int (iI s0)), (2, .int (iI bt)), (3, .int (iI n))]) hx hb dX4_sheet_27 hl (by decide) rfl (fun ls hl => ?_)
        refine lv_iload_n hx hb dX4_sheet_29 rfl (lv_at hl 2 rfl) ?_
        refine x_callS (As := [.int (iI s0)]) (rest := []) ⟨hx, hb, hml, hown, hts⟩ (kX1_isSheet s0 (by omega)) (va_cwS 1 hts gX4_sheet_X1_isSheet rfl rfl rfl ykSX1_isSheet ⟨Nat.le_of_ble_eq_true rfl, Nat.le_of_ble_eq_true rfl⟩) hP hK hD hS [] rfl (by decide) (fun _ => rfl) (fun _ => wObj x f q kq vq h g ik ++ (wTab cI q T (jc 0) ++ (wTab cI kq K (jc 1) ++ (wTab cI vq V (jc 2) ++ (wSh cI h SB SS SN ++ (wTp cB g tn TB jc ++ (wA cI f 7 F))))))) (fun _ => rfl) rfl hl.1 rfl (Nat.le_of_ble_eq_true rfl) dX4_sheet_30 ⟨Nat.le_of_ble_eq_true rfl, Nat.le_of_ble_eq_true rfl⟩ (fun _ H locs _ hP hD hS => ?_)
        refine W.eq (g2 := F0 m 33 ls [.int (iI (b2 (decide (0 ≤ s0 ∧ s0 < 4))))]) rfl ?_
        refine x_ifb_eq (tgt := 41) hx hb dX4_sheet_33 (by decide) (fun c_33 => ?_) (fun c_33 => ?_)
        · refine lv_aload_n hx hb dX4_sheet_41 rfl (lv_at hl 1 rfl) ?_
          refine x_ldc hx hb (-1000001) rfl hown (hts (.constant RX4 44 (-1000001)) (by decide +kernel)) dX4_sheet_42 ?_
          refine x_callV (As := [.int (iI (-1000001))]) (rest := []) ⟨hx, hb, hml, hown, hts⟩ (kX4_finding x f q kq vq h g ik F (-1000001) 0 (by omega) (by omega)) (cwV 1 hts gX4_sheet_X4_finding rfl rfl rfl ykVX4_finding ⟨Nat.le_of_ble_eq_true rfl, Nat.le_of_ble_eq_true rfl⟩) hP hK hD hS 0 3 rfl rfl rfl [0, 31] rfl (by decide) (fun _ => rfl) (fun _ => wObj x f q kq vq h g ik ++ (wTab cI q T (jc 0) ++ (wTab cI kq K (jc 1) ++ (wTab cI vq V (jc 2) ++ (wSh cI h SB SS SN ++ (wTp cB g tn TB jc ++ (wA cI f 7 (bmp 0 F)))))))) (fun _ => rfl) rfl hl.1 rfl (Nat.le_of_ble_eq_true rfl) dX4_sheet_44 ⟨Nat.le_of_ble_eq_true rfl, Nat.le_of_ble_eq_true rfl⟩ (fun _ H locs _ hP hD hS => ?_)
          refine W.eq (g2 := F0 m 47 ls [.int (iI (-1000001))]) rfl ?_
          exact kend (((-1000001), T, K, ik, SB, SS, SN, tn, TB, (bmp 0 F)), V, jc) hP hS rfl (by first | exact ((if_pos (by omega))).symm | exact (((if_neg (by omega)).trans ((if_neg (by omega)).trans (if_pos (by omega))))).symm) dX4_sheet_47
        · refine lv_iload hx hb dX4_sheet_36 (lv_at hl 0 rfl) ?_
          refine x_if_ne (tgt := 48) hx hb (by decide) dX4_sheet_38 (by decide) (fun c_38 => ?_) (fun c_38 => ?_)
          · refine lv_iload_n hx hb dX4_sheet_48 rfl (lv_at hl 4 rfl) ?_
            refine x_if_ge (tgt := 59) hx hb (by omega) dX4_sheet_49 (by decide) (fun c_49 => ?_) (fun c_49 => ?_)
            · refine lv_iload_n hx hb dX4_sheet_59 rfl (lv_at hl 4 rfl) ?_
              refine x_bipush hx hb dX4_sheet_60 (by decide) ?_
              refine x_icmp_le (tgt := 72) hx hb (by omega) (by decide) dX4_sheet_62 (by decide) (fun c_62 => ?_) (fun c_62 => ?_)
              · obtain ⟨s1, rfl⟩ : ∃ s1 : Nat, s0 = (s1 : Int) := ⟨s0.toNat, by omega⟩
                refine lv_aload_n hx hb dX4_sheet_72 rfl (lv_at hl 1 rfl) ?_
                refine va_get (D := D) (ci := 3) (v := .ref (h 0)) (C := RX4) (T := TX4) (N := 7) hx hb hts (iT_X4_sheet_X4) hown hK hP 0 rfl rfl 3 (by decide) (hts (.fieldLink RX4 25 "WordSupper" "sheets" "LWordSupper$Sheets;") (by decide +kernel)) (fun _ h9 => h9) rfl dX4_sheet_73 ?_
                refine lv_iload_n hx hb dX4_sheet_76 rfl (lv_at hl 2 rfl) ?_
                refine lv_iload_n hx hb dX4_sheet_77 rfl (lv_at hl 3 rfl) ?_
                refine lv_iload_n hx hb dX4_sheet_78 rfl (lv_at hl 3 rfl) ?_
                refine x_if_ne (tgt := 86) hx hb (by omega) dX4_sheet_79 (by decide) (fun c_79 => ?_) (fun c_79 => ?_)
                · refine lv_iload_n hx hb dX4_sheet_86 rfl (lv_at hl 4 rfl) ?_
                  refine x_callV (As := [.int (iI ((s1 : Nat) : Int)), .int (iI bt), .int (iI n)]) (rest := []) ⟨hx, hb, hml, hown, hts⟩ (kX1_lay h SB SS SN s1 bt n (by omega)) (cwV 3 hts gX4_sheet_X1_lay rfl rfl rfl ykVX1_lay ⟨Nat.le_of_ble_eq_true rfl, Nat.le_of_ble_eq_true rfl⟩) hP hK hD hS 25 0 rfl rfl rfl [25, 26, 27, 28] rfl (by decide) (fun _ => rfl) (fun u => wObj x f q kq vq h g ik ++ (wTab cI q T (jc 0) ++ (wTab cI kq K (jc 1) ++ (wTab cI vq V (jc 2) ++ (wSh cI h (va_up SB s1 bt) (va_up SS s1 n) u ++ (wTp cB g tn TB jc ++ (wA cI f 7 F))))))) (fun _ => rfl) rfl hl.1 rfl (Nat.le_of_ble_eq_true rfl) dX4_sheet_87 ⟨Nat.le_of_ble_eq_true rfl, Nat.le_of_ble_eq_true rfl⟩ (fun u14 H locs hp15 hP hD hS => ?_)
                  obtain ⟨N113, rfl⟩ : ∃ z, z = u14 := ⟨_, rfl⟩
                  replace hp15 : N113 = zeF (40 * s1) 40 0 SN := hp15
                  have hP : va_P D vwCl (wObj x f q kq vq h g ik ++ (wTab cI q T (jc 0) ++ (wTab cI kq K (jc 1) ++ (wTab cI vq V (jc 2) ++ (wSh cI h (va_up SB s1 bt) (va_up SS s1 n) N113 ++ (wTp cB g tn TB jc ++ (wA cI f 7 F))))))) H := hP
                  have hD : va_D A (wObj x f q kq vq h g ik ++ (wTab cI q T (jc 0) ++ (wTab cI kq K (jc 1) ++ (wTab cI vq V (jc 2) ++ (wSh cI h (va_up SB s1 bt) (va_up SS s1 n) N113 ++ (wTp cB g tn TB jc ++ (wA cI f 7 F))))))) := hD
                  refine W.eq (g2 := F0 m 90 ls []) rfl ?_
                  refine lv_aload_n hx hb dX4_sheet_90 rfl (lv_at hl 1 rfl) ?_
                  refine va_get (D := D) (ci := 3) (v := .ref (h 0)) (C := RX4) (T := TX4) (N := 7) hx hb hts (iT_X4_sheet_X4) hown hK hP 0 rfl rfl 3 (by decide) (hts (.fieldLink RX4 25 "WordSupper" "sheets" "LWordSupper$Sheets;") (by decide +kernel)) (fun _ h9 => h9) rfl dX4_sheet_91 ?_
                  refine va_get (D := D) (ci := 0) (v := .ref (h 2)) (C := RX1) (T := TX1) (N := 3) hx hb hts (iT_X4_sheet_X1) hown hK hP 25 rfl rfl 1 (by decide) (hts (.fieldLink RX4 180 "WordSupper$Sheets" "size" "[I") (by decide +kernel)) (fun _ h9 => h9) rfl dX4_sheet_94 ?_
                  refine lv_iload_n hx hb dX4_sheet_97 rfl (lv_at hl 2 rfl) ?_
                  refine x_iald hx hb hK hP 27 0 rfl rfl s1 rfl (by omega) (by decide) ((va_up SS s1 n) s1) (gd_at _ (by omega)) dX4_sheet_98 ?_
                  exact kend (((va_up SS s1 n) s1, T, K, ik, va_up SB s1 bt, va_up SS s1 n, N113, tn, TB, F), V, jc) hP hS rfl (by rw [hp15]; unfold m_sheet; rw [if_neg (by omega), if_neg (by omega), if_neg (by omega), if_neg (by omega), Int.toNat_natCast, up_s]) dX4_sheet_99
                · refine x_iconst hx hb dX4_sheet_82 ?_
                  refine lv_goto (tgt := 87) hx hb dX4_sheet_83 (by decide) ?_
                  refine x_callV (As := [.int (iI ((s1 : Nat) : Int)), .int (iI bt), .int (iI 0)]) (rest := []) ⟨hx, hb, hml, hown, hts⟩ (kX1_lay h SB SS SN s1 bt 0 (by omega)) (cwV 3 hts gX4_sheet_X1_lay rfl rfl rfl ykVX1_lay ⟨Nat.le_of_ble_eq_true rfl, Nat.le_of_ble_eq_true rfl⟩) hP hK hD hS 25 0 rfl rfl rfl [25, 26, 27, 28] rfl (by decide) (fun _ => rfl) (fun u => wObj x f q kq vq h g ik ++ (wTab cI q T (jc 0) ++ (wTab cI kq K (jc 1) ++ (wTab cI vq V (jc 2) ++ (wSh cI h (va_up SB s1 bt) (va_up SS s1 0) u ++ (wTp cB g tn TB jc ++ (wA cI f 7 F))))))) (fun _ => rfl) rfl hl.1 rfl (Nat.le_of_ble_eq_true rfl) dX4_sheet_87 ⟨Nat.le_of_ble_eq_true rfl, Nat.le_of_ble_eq_true rfl⟩ (fun u17 H locs hp18 hP hD hS => ?_)
                  obtain ⟨N116, rfl⟩ : ∃ z, z = u17 := ⟨_, rfl⟩
                  replace hp18 : N116 = zeF (40 * s1) 40 0 SN := hp18
                  have hP : va_P D vwCl (wObj x f q kq vq h g ik ++ (wTab cI q T (jc 0) ++ (wTab cI kq K (jc 1) ++ (wTab cI vq V (jc 2) ++ (wSh cI h (va_up SB s1 bt) (va_up SS s1 0) N116 ++ (wTp cB g tn TB jc ++ (wA cI f 7 F))))))) H := hP
                  have hD : va_D A (wObj x f q kq vq h g ik ++ (wTab cI q T (jc 0) ++ (wTab cI kq K (jc 1) ++ (wTab cI vq V (jc 2) ++ (wSh cI h (va_up SB s1 bt) (va_up SS s1 0) N116 ++ (wTp cB g tn TB jc ++ (wA cI f 7 F))))))) := hD
                  refine W.eq (g2 := F0 m 90 ls []) rfl ?_
                  refine lv_aload_n hx hb dX4_sheet_90 rfl (lv_at hl 1 rfl) ?_
                  refine va_get (D := D) (ci := 3) (v := .ref (h 0)) (C := RX4) (T := TX4) (N := 7) hx hb hts (iT_X4_sheet_X4) hown hK hP 0 rfl rfl 3 (by decide) (hts (.fieldLink RX4 25 "WordSupper" "sheets" "LWordSupper$Sheets;") (by decide +kernel)) (fun _ h9 => h9) rfl dX4_sheet_91 ?_
                  refine va_get (D := D) (ci := 0) (v := .ref (h 2)) (C := RX1) (T := TX1) (N := 3) hx hb hts (iT_X4_sheet_X1) hown hK hP 25 rfl rfl 1 (by decide) (hts (.fieldLink RX4 180 "WordSupper$Sheets" "size" "[I") (by decide +kernel)) (fun _ h9 => h9) rfl dX4_sheet_94 ?_
                  refine lv_iload_n hx hb dX4_sheet_97 rfl (lv_at hl 2 rfl) ?_
                  refine x_iald hx hb hK hP 27 0 rfl rfl s1 rfl (by omega) (by decide) ((va_up SS s1 0) s1) (gd_at _ (by omega)) dX4_sheet_98 ?_
                  exact kend (((va_up SS s1 0) s1, T, K, ik, va_up SB s1 bt, va_up SS s1 0, N116, tn, TB, F), V, jc) hP hS rfl (by rw [hp18]; unfold m_sheet; rw [if_neg (by omega), if_neg (by omega), if_neg (by omega), if_pos (by omega), Int.toNat_natCast, up_s]) dX4_sheet_99
              · refine lv_aload_n hx hb dX4_sheet_65 rfl (lv_at hl 1 rfl) ?_
                refine x_ldc hx hb (-1000001) rfl hown (hts (.constant RX4 44 (-1000001)) (by decide +kernel)) dX4_sheet_66 ?_
                refine x_callV (As := [.int (iI (-1000001))]) (rest := []) ⟨hx, hb, hml, hown, hts⟩ (kX4_finding x f q kq vq h g ik F (-1000001) 0 (by omega) (by omega)) (cwV 1 hts gX4_sheet_X4_finding rfl rfl rfl ykVX4_finding ⟨Nat.le_of_ble_eq_true rfl, Nat.le_of_ble_eq_true rfl⟩) hP hK hD hS 0 3 rfl rfl rfl [0, 31] rfl (by decide) (fun _ => rfl) (fun _ => wObj x f q kq vq h g ik ++ (wTab cI q T (jc 0) ++ (wTab cI kq K (jc 1) ++ (wTab cI vq V (jc 2) ++ (wSh cI h SB SS SN ++ (wTp cB g tn TB jc ++ (wA cI f 7 (bmp 0 F)))))))) (fun _ => rfl) rfl hl.1 rfl (Nat.le_of_ble_eq_true rfl) dX4_sheet_68 ⟨Nat.le_of_ble_eq_true rfl, Nat.le_of_ble_eq_true rfl⟩ (fun _ H locs _ hP hD hS => ?_)
                refine W.eq (g2 := F0 m 71 ls [.int (iI (-1000001))]) rfl ?_
                exact kend (((-1000001), T, K, ik, SB, SS, SN, tn, TB, (bmp 0 F)), V, jc) hP hS rfl (by first | exact ((if_pos (by omega))).symm | exact (((if_neg (by omega)).trans ((if_neg (by omega)).trans (if_pos (by omega))))).symm) dX4_sheet_71
            · refine lv_aload_n hx hb dX4_sheet_52 rfl (lv_at hl 1 rfl) ?_
              refine x_ldc hx hb (-1000007) rfl hown (hts (.constant RX4 220 (-1000007)) (by decide +kernel)) dX4_sheet_53 ?_
              refine x_callV (As := [.int (iI (-1000007))]) (rest := []) ⟨hx, hb, hml, hown, hts⟩ (kX4_finding x f q kq vq h g ik F (-1000007) 6 (by omega) (by omega)) (cwV 1 hts gX4_sheet_X4_finding rfl rfl rfl ykVX4_finding ⟨Nat.le_of_ble_eq_true rfl, Nat.le_of_ble_eq_true rfl⟩) hP hK hD hS 0 3 rfl rfl rfl [0, 31] rfl (by decide) (fun _ => rfl) (fun _ => wObj x f q kq vq h g ik ++ (wTab cI q T (jc 0) ++ (wTab cI kq K (jc 1) ++ (wTab cI vq V (jc 2) ++ (wSh cI h SB SS SN ++ (wTp cB g tn TB jc ++ (wA cI f 7 (bmp 6 F)))))))) (fun _ => rfl) rfl hl.1 rfl (Nat.le_of_ble_eq_true rfl) dX4_sheet_55 ⟨Nat.le_of_ble_eq_true rfl, Nat.le_of_ble_eq_true rfl⟩ (fun _ H locs _ hP hD hS => ?_)
              refine W.eq (g2 := F0 m 58 ls [.int (iI (-1000007))]) rfl ?_
              exact kend (((-1000007), T, K, ik, SB, SS, SN, tn, TB, (bmp 6 F)), V, jc) hP hS rfl (((if_neg (by omega)).trans (if_pos (by omega)))).symm dX4_sheet_58
          · exact absurd c_38 (by decide)
      · refine lv_iload_n hx hb dX4_sheet_16 rfl (lv_at hl 2 rfl) ?_
        refine x_bipush hx hb dX4_sheet_17 (by decide) ?_
        refine x_icmp_ne (tgt := 26) hx hb (by omega) (by decide) dX4_sheet_19 (by decide) (fun c_19 => ?_) (fun c_19 => ?_)
        · refine x_iconst hx hb dX4_sheet_26 ?_
          refine lv_istore (lv' := [(4, .int (iI 0)), (0, .ref x), (1, .int (iI s0)), (2, .int (iI bt)), (3, .int (iI n))]) hx hb dX4_sheet_27 hl (by decide) rfl (fun ls hl => ?_)
          refine lv_iload_n hx hb dX4_sheet_29 rfl (lv_at hl 2 rfl) ?_
          refine x_callS (As := [.int (iI s0)]) (rest := []) ⟨hx, hb, hml, hown, hts⟩ (kX1_isSheet s0 (by omega)) (va_cwS 1 hts gX4_sheet_X1_isSheet rfl rfl rfl ykSX1_isSheet ⟨Nat.le_of_ble_eq_true rfl, Nat.le_of_ble_eq_true rfl⟩) hP hK hD hS [] rfl (by decide) (fun _ => rfl) (fun _ => wObj x f q kq vq h g ik ++ (wTab cI q T (jc 0) ++ (wTab cI kq K (jc 1) ++ (wTab cI vq V (jc 2) ++ (wSh cI h SB SS SN ++ (wTp cB g tn TB jc ++ (wA cI f 7 F))))))) (fun _ => rfl) rfl hl.1 rfl (Nat.le_of_ble_eq_true rfl) dX4_sheet_30 ⟨Nat.le_of_ble_eq_true rfl, Nat.le_of_ble_eq_true rfl⟩ (fun _ H locs _ hP hD hS => ?_)
          refine W.eq (g2 := F0 m 33 ls [.int (iI (b2 (decide (0 ≤ s0 ∧ s0 < 4))))]) rfl ?_
          refine x_ifb_eq (tgt := 41) hx hb dX4_sheet_33 (by decide) (fun c_33 => ?_) (fun c_33 => ?_)
          · refine lv_aload_n hx hb dX4_sheet_41 rfl (lv_at hl 1 rfl) ?_
            refine x_ldc hx hb (-1000001) rfl hown (hts (.constant RX4 44 (-1000001)) (by decide +kernel)) dX4_sheet_42 ?_
            refine x_callV (As := [.int (iI (-1000001))]) (rest := []) ⟨hx, hb, hml, hown, hts⟩ (kX4_finding x f q kq vq h g ik F (-1000001) 0 (by omega) (by omega)) (cwV 1 hts gX4_sheet_X4_finding rfl rfl rfl ykVX4_finding ⟨Nat.le_of_ble_eq_true rfl, Nat.le_of_ble_eq_true rfl⟩) hP hK hD hS 0 3 rfl rfl rfl [0, 31] rfl (by decide) (fun _ => rfl) (fun _ => wObj x f q kq vq h g ik ++ (wTab cI q T (jc 0) ++ (wTab cI kq K (jc 1) ++ (wTab cI vq V (jc 2) ++ (wSh cI h SB SS SN ++ (wTp cB g tn TB jc ++ (wA cI f 7 (bmp 0 F)))))))) (fun _ => rfl) rfl hl.1 rfl (Nat.le_of_ble_eq_true rfl) dX4_sheet_44 ⟨Nat.le_of_ble_eq_true rfl, Nat.le_of_ble_eq_true rfl⟩ (fun _ H locs _ hP hD hS => ?_)
            refine W.eq (g2 := F0 m 47 ls [.int (iI (-1000001))]) rfl ?_
            exact kend (((-1000001), T, K, ik, SB, SS, SN, tn, TB, (bmp 0 F)), V, jc) hP hS rfl (by first | exact ((if_pos (by omega))).symm | exact (((if_neg (by omega)).trans ((if_neg (by omega)).trans (if_pos (by omega))))).symm) dX4_sheet_47
          · refine lv_iload hx hb dX4_sheet_36 (lv_at hl 0 rfl) ?_
            refine x_if_ne (tgt := 48) hx hb (by decide) dX4_sheet_38 (by decide) (fun c_38 => ?_) (fun c_38 => ?_)
            · exact absurd c_38 (by decide)
            · refine lv_aload_n hx hb dX4_sheet_41 rfl (lv_at hl 1 rfl) ?_
              refine x_ldc hx hb (-1000001) rfl hown (hts (.constant RX4 44 (-1000001)) (by decide +kernel)) dX4_sheet_42 ?_
              refine x_callV (As := [.int (iI (-1000001))]) (rest := []) ⟨hx, hb, hml, hown, hts⟩ (kX4_finding x f q kq vq h g ik F (-1000001) 0 (by omega) (by omega)) (cwV 1 hts gX4_sheet_X4_finding rfl rfl rfl ykVX4_finding ⟨Nat.le_of_ble_eq_true rfl, Nat.le_of_ble_eq_true rfl⟩) hP hK hD hS 0 3 rfl rfl rfl [0, 31] rfl (by decide) (fun _ => rfl) (fun _ => wObj x f q kq vq h g ik ++ (wTab cI q T (jc 0) ++ (wTab cI kq K (jc 1) ++ (wTab cI vq V (jc 2) ++ (wSh cI h SB SS SN ++ (wTp cB g tn TB jc ++ (wA cI f 7 (bmp 0 F)))))))) (fun _ => rfl) rfl hl.1 rfl (Nat.le_of_ble_eq_true rfl) dX4_sheet_44 ⟨Nat.le_of_ble_eq_true rfl, Nat.le_of_ble_eq_true rfl⟩ (fun _ H locs _ hP hD hS => ?_)
              refine W.eq (g2 := F0 m 47 ls [.int (iI (-1000001))]) rfl ?_
              exact kend (((-1000001), T, K, ik, SB, SS, SN, tn, TB, (bmp 0 F)), V, jc) hP hS rfl (by first | exact ((if_pos (by omega))).symm | exact (((if_neg (by omega)).trans ((if_neg (by omega)).trans (if_pos (by omega))))).symm) dX4_sheet_47
        · refine x_iconst hx hb dX4_sheet_22 ?_
          refine lv_goto (tgt := 27) hx hb dX4_sheet_23 (by decide) ?_
          refine lv_istore (lv' := [(4, .int (iI 1)), (0, .ref x), (1, .int (iI s0)), (2, .int (iI bt)), (3, .int (iI n))]) hx hb dX4_sheet_27 hl (by decide) rfl (fun ls hl => ?_)
          refine lv_iload_n hx hb dX4_sheet_29 rfl (lv_at hl 2 rfl) ?_
          refine x_callS (As := [.int (iI s0)]) (rest := []) ⟨hx, hb, hml, hown, hts⟩ (kX1_isSheet s0 (by omega)) (va_cwS 1 hts gX4_sheet_X1_isSheet rfl rfl rfl ykSX1_isSheet ⟨Nat.le_of_ble_eq_true rfl, Nat.le_of_ble_eq_true rfl⟩) hP hK hD hS [] rfl (by decide) (fun _ => rfl) (fun _ => wObj x f q kq vq h g ik ++ (wTab cI q T (jc 0) ++ (wTab cI kq K (jc 1) ++ (wTab cI vq V (jc 2) ++ (wSh cI h SB SS SN ++ (wTp cB g tn TB jc ++ (wA cI f 7 F))))))) (fun _ => rfl) rfl hl.1 rfl (Nat.le_of_ble_eq_true rfl) dX4_sheet_30 ⟨Nat.le_of_ble_eq_true rfl, Nat.le_of_ble_eq_true rfl⟩ (fun _ H locs _ hP hD hS => ?_)
          refine W.eq (g2 := F0 m 33 ls [.int (iI (b2 (decide (0 ≤ s0 ∧ s0 < 4))))]) rfl ?_
          refine x_ifb_eq (tgt := 41) hx hb dX4_sheet_33 (by decide) (fun c_33 => ?_) (fun c_33 => ?_)
          · refine lv_aload_n hx hb dX4_sheet_41 rfl (lv_at hl 1 rfl) ?_
            refine x_ldc hx hb (-1000001) rfl hown (hts (.constant RX4 44 (-1000001)) (by decide +kernel)) dX4_sheet_42 ?_
            refine x_callV (As := [.int (iI (-1000001))]) (rest := []) ⟨hx, hb, hml, hown, hts⟩ (kX4_finding x f q kq vq h g ik F (-1000001) 0 (by omega) (by omega)) (cwV 1 hts gX4_sheet_X4_finding rfl rfl rfl ykVX4_finding ⟨Nat.le_of_ble_eq_true rfl, Nat.le_of_ble_eq_true rfl⟩) hP hK hD hS 0 3 rfl rfl rfl [0, 31] rfl (by decide) (fun _ => rfl) (fun _ => wObj x f q kq vq h g ik ++ (wTab cI q T (jc 0) ++ (wTab cI kq K (jc 1) ++ (wTab cI vq V (jc 2) ++ (wSh cI h SB SS SN ++ (wTp cB g tn TB jc ++ (wA cI f 7 (bmp 0 F)))))))) (fun _ => rfl) rfl hl.1 rfl (Nat.le_of_ble_eq_true rfl) dX4_sheet_44 ⟨Nat.le_of_ble_eq_true rfl, Nat.le_of_ble_eq_true rfl⟩ (fun _ H locs _ hP hD hS => ?_)
            refine W.eq (g2 := F0 m 47 ls [.int (iI (-1000001))]) rfl ?_
            exact kend (((-1000001), T, K, ik, SB, SS, SN, tn, TB, (bmp 0 F)), V, jc) hP hS rfl (by first | exact ((if_pos (by omega))).symm | exact (((if_neg (by omega)).trans ((if_neg (by omega)).trans (if_pos (by omega))))).symm) dX4_sheet_47
          · refine lv_iload hx hb dX4_sheet_36 (lv_at hl 0 rfl) ?_
            refine x_if_ne (tgt := 48) hx hb (by decide) dX4_sheet_38 (by decide) (fun c_38 => ?_) (fun c_38 => ?_)
            · refine lv_iload_n hx hb dX4_sheet_48 rfl (lv_at hl 4 rfl) ?_
              refine x_if_ge (tgt := 59) hx hb (by omega) dX4_sheet_49 (by decide) (fun c_49 => ?_) (fun c_49 => ?_)
              · refine lv_iload_n hx hb dX4_sheet_59 rfl (lv_at hl 4 rfl) ?_
                refine x_bipush hx hb dX4_sheet_60 (by decide) ?_
                refine x_icmp_le (tgt := 72) hx hb (by omega) (by decide) dX4_sheet_62 (by decide) (fun c_62 => ?_) (fun c_62 => ?_)
                · obtain ⟨s1, rfl⟩ : ∃ s1 : Nat, s0 = (s1 : Int) := ⟨s0.toNat, by omega⟩
                  refine lv_aload_n hx hb dX4_sheet_72 rfl (lv_at hl 1 rfl) ?_
                  refine va_get (D := D) (ci := 3) (v := .ref (h 0)) (C := RX4) (T := TX4) (N := 7) hx hb hts (iT_X4_sheet_X4) hown hK hP 0 rfl rfl 3 (by decide) (hts (.fieldLink RX4 25 "WordSupper" "sheets" "LWordSupper$Sheets;") (by decide +kernel)) (fun _ h9 => h9) rfl dX4_sheet_73 ?_
                  refine lv_iload_n hx hb dX4_sheet_76 rfl (lv_at hl 2 rfl) ?_
                  refine lv_iload_n hx hb dX4_sheet_77 rfl (lv_at hl 3 rfl) ?_
                  refine lv_iload_n hx hb dX4_sheet_78 rfl (lv_at hl 3 rfl) ?_
                  refine x_if_ne (tgt := 86) hx hb (by omega) dX4_sheet_79 (by decide) (fun c_79 => ?_) (fun c_79 => ?_)
                  · refine lv_iload_n hx hb dX4_sheet_86 rfl (lv_at hl 4 rfl) ?_
                    refine x_callV (As := [.int (iI ((s1 : Nat) : Int)), .int (iI bt), .int (iI n)]) (rest := []) ⟨hx, hb, hml, hown, hts⟩ (kX1_lay h SB SS SN s1 bt n (by omega)) (cwV 3 hts gX4_sheet_X1_lay rfl rfl rfl ykVX1_lay ⟨Nat.le_of_ble_eq_true rfl, Nat.le_of_ble_eq_true rfl⟩) hP hK hD hS 25 0 rfl rfl rfl [25, 26, 27, 28] rfl (by decide) (fun _ => rfl) (fun u => wObj x f q kq vq h g ik ++ (wTab cI q T (jc 0) ++ (wTab cI kq K (jc 1) ++ (wTab cI vq V (jc 2) ++ (wSh cI h (va_up SB s1 bt) (va_up SS s1 n) u ++ (wTp cB g tn TB jc ++ (wA cI f 7 F))))))) (fun _ => rfl) rfl hl.1 rfl (Nat.le_of_ble_eq_true rfl) dX4_sheet_87 ⟨Nat.le_of_ble_eq_true rfl, Nat.le_of_ble_eq_true rfl⟩ (fun u20 H locs hp21 hP hD hS => ?_)
                    obtain ⟨N119, rfl⟩ : ∃ z, z = u20 := ⟨_, rfl⟩
                    replace hp21 : N119 = zeF (40 * s1) 40 0 SN := hp21
                    have hP : va_P D vwCl (wObj x f q kq vq h g ik ++ (wTab cI q T (jc 0) ++ (wTab cI kq K (jc 1) ++ (wTab cI vq V (jc 2) ++ (wSh cI h (va_up SB s1 bt) (va_up SS s1 n) N119 ++ (wTp cB g tn TB jc ++ (wA cI f 7 F))))))) H := hP
                    have hD : va_D A (wObj x f q kq vq h g ik ++ (wTab cI q T (jc 0) ++ (wTab cI kq K (jc 1) ++ (wTab cI vq V (jc 2) ++ (wSh cI h (va_up SB s1 bt) (va_up SS s1 n) N119 ++ (wTp cB g tn TB jc ++ (wA cI f 7 F))))))) := hD
                    refine W.eq (g2 := F0 m 90 ls []) rfl ?_
                    refine lv_aload_n hx hb dX4_sheet_90 rfl (lv_at hl 1 rfl) ?_
                    refine va_get (D := D) (ci := 3) (v := .ref (h 0)) (C := RX4) (T := TX4) (N := 7) hx hb hts (iT_X4_sheet_X4) hown hK hP 0 rfl rfl 3 (by decide) (hts (.fieldLink RX4 25 "WordSupper" "sheets" "LWordSupper$Sheets;") (by decide +kernel)) (fun _ h9 => h9) rfl dX4_sheet_91 ?_
                    refine va_get (D := D) (ci := 0) (v := .ref (h 2)) (C := RX1) (T := TX1) (N := 3) hx hb hts (iT_X4_sheet_X1) hown hK hP 25 rfl rfl 1 (by decide) (hts (.fieldLink RX4 180 "WordSupper$Sheets" "size" "[I") (by decide +kernel)) (fun _ h9 => h9) rfl dX4_sheet_94 ?_
                    refine lv_iload_n hx hb dX4_sheet_97 rfl (lv_at hl 2 rfl) ?_
                    refine x_iald hx hb hK hP 27 0 rfl rfl s1 rfl (by omega) (by decide) ((va_up SS s1 n) s1) (gd_at _ (by omega)) dX4_sheet_98 ?_
                    exact kend (((va_up SS s1 n) s1, T, K, ik, va_up SB s1 bt, va_up SS s1 n, N119, tn, TB, F), V, jc) hP hS rfl (by rw [hp21]; unfold m_sheet; rw [if_neg (by omega), if_neg (by omega), if_neg (by omega), if_neg (by omega), Int.toNat_natCast, up_s]) dX4_sheet_99
                  · refine x_iconst hx hb dX4_sheet_82 ?_
                    refine lv_goto (tgt := 87) hx hb dX4_sheet_83 (by decide) ?_
                    refine x_callV (As := [.int (iI ((s1 : Nat) : Int)), .int (iI bt), .int (iI 0)]) (rest := []) ⟨hx, hb, hml, hown, hts⟩ (kX1_lay h SB SS SN s1 bt 0 (by omega)) (cwV 3 hts gX4_sheet_X1_lay rfl rfl rfl ykVX1_lay ⟨Nat.le_of_ble_eq_true rfl, Nat.le_of_ble_eq_true rfl⟩) hP hK hD hS 25 0 rfl rfl rfl [25, 26, 27, 28] rfl (by decide) (fun _ => rfl) (fun u => wObj x f q kq vq h g ik ++ (wTab cI q T (jc 0) ++ (wTab cI kq K (jc 1) ++ (wTab cI vq V (jc 2) ++ (wSh cI h (va_up SB s1 bt) (va_up SS s1 0) u ++ (wTp cB g tn TB jc ++ (wA cI f 7 F))))))) (fun _ => rfl) rfl hl.1 rfl (Nat.le_of_ble_eq_true rfl) dX4_sheet_87 ⟨Nat.le_of_ble_eq_true rfl, Nat.le_of_ble_eq_true rfl⟩ (fun u23 H locs hp24 hP hD hS => ?_)
                    obtain ⟨N122, rfl⟩ : ∃ z, z = u23 := ⟨_, rfl⟩
                    replace hp24 : N122 = zeF (40 * s1) 40 0 SN := hp24
                    have hP : va_P D vwCl (wObj x f q kq vq h g ik ++ (wTab cI q T (jc 0) ++ (wTab cI kq K (jc 1) ++ (wTab cI vq V (jc 2) ++ (wSh cI h (va_up SB s1 bt) (va_up SS s1 0) N122 ++ (wTp cB g tn TB jc ++ (wA cI f 7 F))))))) H := hP
                    have hD : va_D A (wObj x f q kq vq h g ik ++ (wTab cI q T (jc 0) ++ (wTab cI kq K (jc 1) ++ (wTab cI vq V (jc 2) ++ (wSh cI h (va_up SB s1 bt) (va_up SS s1 0) N122 ++ (wTp cB g tn TB jc ++ (wA cI f 7 F))))))) := hD
                    refine W.eq (g2 := F0 m 90 ls []) rfl ?_
                    refine lv_aload_n hx hb dX4_sheet_90 rfl (lv_at hl 1 rfl) ?_
                    refine va_get (D := D) (ci := 3) (v := .ref (h 0)) (C := RX4) (T := TX4) (N := 7) hx hb hts (iT_X4_sheet_X4) hown hK hP 0 rfl rfl 3 (by decide) (hts (.fieldLink RX4 25 "WordSupper" "sheets" "LWordSupper$Sheets;") (by decide +kernel)) (fun _ h9 => h9) rfl dX4_sheet_91 ?_
                    refine va_get (D := D) (ci := 0) (v := .ref (h 2)) (C := RX1) (T := TX1) (N := 3) hx hb hts (iT_X4_sheet_X1) hown hK hP 25 rfl rfl 1 (by decide) (hts (.fieldLink RX4 180 "WordSupper$Sheets" "size" "[I") (by decide +kernel)) (fun _ h9 => h9) rfl dX4_sheet_94 ?_
                    refine lv_iload_n hx hb dX4_sheet_97 rfl (lv_at hl 2 rfl) ?_
                    refine x_iald hx hb hK hP 27 0 rfl rfl s1 rfl (by omega) (by decide) ((va_up SS s1 0) s1) (gd_at _ (by omega)) dX4_sheet_98 ?_
                    exact kend (((va_up SS s1 0) s1, T, K, ik, va_up SB s1 bt, va_up SS s1 0, N122, tn, TB, F), V, jc) hP hS rfl (by rw [hp24]; unfold m_sheet; rw [if_neg (by omega), if_neg (by omega), if_neg (by omega), if_pos (by omega), Int.toNat_natCast, up_s]) dX4_sheet_99
                · refine lv_aload_n hx hb dX4_sheet_65 rfl (lv_at hl 1 rfl) ?_
                  refine x_ldc hx hb (-1000001) rfl hown (hts (.constant RX4 44 (-1000001)) (by decide +kernel)) dX4_sheet_66 ?_
                  refine x_callV (As := [.int (iI (-1000001))]) (rest := []) ⟨hx, hb, hml, hown, hts⟩ (kX4_finding x f q kq vq h g ik F (-1000001) 0 (by omega) (by omega)) (cwV 1 hts gX4_sheet_X4_finding rfl rfl rfl ykVX4_finding ⟨Nat.le_of_ble_eq_true rfl, Nat.le_of_ble_eq_true rfl⟩) hP hK hD hS 0 3 rfl rfl rfl [0, 31] rfl (by decide) (fun _ => rfl) (fun _ => wObj x f q kq vq h g ik ++ (wTab cI q T (jc 0) ++ (wTab cI kq K (jc 1) ++ (wTab cI vq V (jc 2) ++ (wSh cI h SB SS SN ++ (wTp cB g tn TB jc ++ (wA cI f 7 (bmp 0 F)))))))) (fun _ => rfl) rfl hl.1 rfl (Nat.le_of_ble_eq_true rfl) dX4_sheet_68 ⟨Nat.le_of_ble_eq_true rfl, Nat.le_of_ble_eq_true rfl⟩ (fun _ H locs _ hP hD hS => ?_)
                  refine W.eq (g2 := F0 m 71 ls [.int (iI (-1000001))]) rfl ?_
                  exact kend (((-1000001), T, K, ik, SB, SS, SN, tn, TB, (bmp 0 F)), V, jc) hP hS rfl (by first | exact ((if_pos (by omega))).symm | exact (((if_neg (by omega)).trans ((if_neg (by omega)).trans (if_pos (by omega))))).symm) dX4_sheet_71
              · refine lv_aload_n hx hb dX4_sheet_52 rfl (lv_at hl 1 rfl) ?_
                refine x_ldc hx hb (-1000007) rfl hown (hts (.constant RX4 220 (-1000007)) (by decide +kernel)) dX4_sheet_53 ?_
                refine x_callV (As := [.int (iI (-1000007))]) (rest := []) ⟨hx, hb, hml, hown, hts⟩ (kX4_finding x f q kq vq h g ik F (-1000007) 6 (by omega) (by omega)) (cwV 1 hts gX4_sheet_X4_finding rfl rfl rfl ykVX4_finding ⟨Nat.le_of_ble_eq_true rfl, Nat.le_of_ble_eq_true rfl⟩) hP hK hD hS 0 3 rfl rfl rfl [0, 31] rfl (by decide) (fun _ => rfl) (fun _ => wObj x f q kq vq h g ik ++ (wTab cI q T (jc 0) ++ (wTab cI kq K (jc 1) ++ (wTab cI vq V (jc 2) ++ (wSh cI h SB SS SN ++ (wTp cB g tn TB jc ++ (wA cI f 7 (bmp 6 F)))))))) (fun _ => rfl) rfl hl.1 rfl (Nat.le_of_ble_eq_true rfl) dX4_sheet_55 ⟨Nat.le_of_ble_eq_true rfl, Nat.le_of_ble_eq_true rfl⟩ (fun _ H locs _ hP hD hS => ?_)
                refine W.eq (g2 := F0 m 58 ls [.int (iI (-1000007))]) rfl ?_
                exact kend (((-1000007), T, K, ik, SB, SS, SN, tn, TB, (bmp 6 F)), V, jc) hP hS rfl (((if_neg (by omega)).trans (if_pos (by omega)))).symm dX4_sheet_58
            · exact absurd c_38 (by decide)
theorem ykSX4_write : yX4_write.cls ≠ "java/lang/invoke/MethodHandle" ∧ yX4_write.cls ≠ "java/lang/invoke/VarHandle" ∧ (parseMethodDescriptor yX4_write.desc).map (fun d => d.parameters.length) = some 3 := by decide +kernel
theorem ykVX4_write : yX4_write.cls = RX4 ∧ yX4_write.cls ≠ "java/lang/invoke/MethodHandle" ∧ yX4_write.cls ≠ "java/lang/invoke/VarHandle" ∧ (parseMethodDescriptor yX4_write.desc).map (fun d => d.parameters.length) = some 3 := ⟨rfl, ykSX4_write⟩
set_option maxRecDepth 20000 in
theorem iT_X4_write_X4 : ∀ w ∈ u_ws RX4 TX4 7, w ∈ wsX4_write := by decide +kernel
set_option maxRecDepth 20000 in
theorem iT_X4_write_X1 : ∀ w ∈ u_ws RX1 TX1 3, w ∈ wsX4_write := by decide +kernel
set_option maxHeartbeats 4000000 in
set_option maxRecDepth 100000 in
theorem kX4_write {l : Launch} {D : va_G} {cI cB : ClassId} (x f : Nat) (q kq vq h g : Nat → Nat) (T K : Tb) (ik : Int) (SB SS SN : Nat → Int) (tn : Int) (TB F : Nat → Int) (V : Tb) (jc : Nat → Int) (s0 i v : Int) (B : Int) (hG : GI B T K ik SB SS SN tn TB F) (hB : B ≤ 40000) (h_s0 : rI s0) (h_i : rI i) (h_v : rI v) : Ct l yX4_write wsX4_write 2 44 D [(cI, .int), (cB, .byte)] [.ref x, .int (iI s0), .int (iI i), .int (iI v)] (wC cI cB x f q kq vq h g (T, K, ik, SB, SS, SN, tn, TB, F) V jc) (S := (Int × Gs) × Tb × (Nat → Int)) (fun u => some (.int (iI u.1.1))) (fun u => u.1 = m_write s0 i v T K ik SB SS SN tn TB F) (fun u => wC cI cB x f q kq vq h g u.1.2 u.2.1 u.2.2) := by
  refine CtI.of (cc := cX4_write) (maxL := 5) (by decide +kernel) rfl (Nat.le_of_ble_eq_true rfl) ?_
  intro pg e s m args below meth c Q A hx hb hml hts hown hP hK hD hS ls hl kend
  have hown : s.vm.findClass RX4 = some m.cls := hown
  have hl : lv_has ls 5 [(0, .ref x), (1, .int (iI s0)), (2, .int (iI i)), (3, .int (iI v))] := hl
  obtain ⟨hI, hIK, hik, hSB, hSS, hSN, htn, hTB, hF⟩ := id hG
  have hn := Inv_n hI
  have hdy := Inv_d hI
  have hP : va_P D vwCl (wObj x f q kq vq h g ik ++ (wTab cI q T (jc 0) ++ (wTab cI kq K (jc 1) ++ (wTab cI vq V (jc 2) ++ (wSh cI h SB SS SN ++ (wTp cB g tn TB jc ++ (wA cI f 7 F))))))) s.heap := hP
  have hD : va_D A (wObj x f q kq vq h g ik ++ (wTab cI q T (jc 0) ++ (wTab cI kq K (jc 1) ++ (wTab cI vq V (jc 2) ++ (wSh cI h SB SS SN ++ (wTp cB g tn TB jc ++ (wA cI f 7 F))))))) := hD
  have hwa := waF_c SB s0
  refine lv_aload_n hx hb dX4_write_0 rfl (lv_at hl 0 rfl) ?_
  refine lv_iload_n hx hb dX4_write_1 rfl (lv_at hl 1 rfl) ?_
  refine x_callV (As := [.int (iI s0)]) (rest := []) ⟨hx, hb, hml, hown, hts⟩ (kX4_wrongSheet x f q kq vq h g ik SB SS SN s0 (by omega) hSB) (cwV 1 hts gX4_write_X4_wrongSheet rfl rfl rfl ykVX4_wrongSheet ⟨Nat.le_of_ble_eq_true rfl, Nat.le_of_ble_eq_true rfl⟩) hP hK hD hS 0 3 rfl rfl rfl [0, 25, 26, 27, 28] rfl (by decide) (fun _ => rfl) (fun _ => wObj x f q kq vq h g ik ++ (wTab cI q T (jc 0) ++ (wTab cI kq K (jc 1) ++ (wTab cI vq V (jc 2) ++ (wSh cI h SB SS SN ++ (wTp cB g tn TB jc ++ (wA cI f 7 F))))))) (fun _ => rfl) rfl hl.1 rfl (Nat.le_of_ble_eq_true rfl) dX4_write_2 ⟨Nat.le_of_ble_eq_true rfl, Nat.le_of_ble_eq_true rfl⟩ (fun _ H locs _ hP hD hS => ?_)
  refine W.eq (g2 := F0 m 5 ls [.int (iI (waF SB s0))]) rfl ?_
  refine lv_istore (lv' := [(4, .int (iI (waF SB s0))), (0, .ref x), (1, .int (iI s0)), (2, .int (iI i)), (3, .int (iI v))]) hx hb dX4_write_5 hl (by decide) rfl (fun ls hl => ?_)
  refine lv_iload hx hb dX4_write_7 (lv_at hl 0 rfl) ?_
  refine x_if_eq (tgt := 19) hx hb (by omega) dX4_write_9 (by decide) (fun c_9 => ?_) (fun c_9 => ?_)
  · have hs9 := waF_0 (show waF SB s0 = 0 by omega)
    obtain ⟨s1, rfl⟩ : ∃ s1 : Nat, s0 = (s1 : Int) := ⟨s0.toNat, by omega⟩
    have hz := hSS s1 (by omega)
    refine lv_iload_n hx hb dX4_write_19 rfl (lv_at hl 3 rfl) ?_
    refine x_iconst hx hb dX4_write_20 ?_
    refine lv_aload_n hx hb dX4_write_21 rfl (lv_at hl 1 rfl) ?_
    refine va_get (D := D) (ci := 3) (v := .ref (h 0)) (C := RX4) (T := TX4) (N := 7) hx hb hts (iT_X4_write_X4) hown hK hP 0 rfl rfl 3 (by decide) (hts (.fieldLink RX4 25 "WordSupper" "sheets" "LWordSupper$Sheets;") (by decide +kernel)) (fun _ h9 => h9) rfl dX4_write_22 ?_
    refine va_get (D := D) (ci := 0) (v := .ref (h 2)) (C := RX1) (T := TX1) (N := 3) hx hb hts (iT_X4_write_X1) hown hK hP 25 rfl rfl 1 (by decide) (hts (.fieldLink RX4 180 "WordSupper$Sheets" "size" "[I") (by decide +kernel)) (fun _ h9 => h9) rfl dX4_write_25 ?_
    refine lv_iload_n hx hb dX4_write_28 rfl (lv_at hl 2 rfl) ?_
    refine x_iald hx hb hK hP 27 0 rfl rfl s1 rfl (by omega) (by decide) (SS s1) (gd_at _ (by omega)) dX4_write_29 ?_
    refine x_iconst hx hb dX4_write_30 ?_
    refine x_isub hx hb dX4_write_31 ?_
    refine x_callS (As := [.int (iI i), .int (iI 0), .int (iI ((SS s1) - 1))]) (rest := []) ⟨hx, hb, hml, hown, hts⟩ (kX4_isWithin i 0 ((SS s1) - 1) (by omega) (by decide) (by omega)) (va_cwS 3 hts gX4_write_X4_isWithin rfl rfl rfl ykSX4_isWithin ⟨Nat.le_of_ble_eq_true rfl, Nat.le_of_ble_eq_true rfl⟩) hP hK hD hS [] rfl (by decide) (fun _ => rfl) (fun _ => wObj x f q kq vq h g ik ++ (wTab cI q T (jc 0) ++ (wTab cI kq K (jc 1) ++ (wTab cI vq V (jc 2) ++ (wSh cI h SB SS SN ++ (wTp cB g tn TB jc ++ (wA cI f 7 F))))))) (fun _ => rfl) rfl hl.1 rfl (Nat.le_of_ble_eq_true rfl) dX4_write_32 ⟨Nat.le_of_ble_eq_true rfl, Nat.le_of_ble_eq_true rfl⟩ (fun _ H locs _ hP hD hS => ?_)
    refine W.eq (g2 := F0 m 35 ls [.int (iI (b2 (decide (0 ≤ i ∧ i ≤ ((SS s1) - 1)))))]) rfl ?_
    refine x_ifb_ne (tgt := 45) hx hb dX4_write_35 (by decide) (fun c_35 => ?_) (fun c_35 => ?_)
    · obtain ⟨i1, rfl⟩ : ∃ i1 : Nat, i = (i1 : Int) := ⟨i.toNat, by omega⟩
      refine lv_aload_n hx hb dX4_write_45 rfl (lv_at hl 1 rfl) ?_
      refine va_get (D := D) (ci := 3) (v := .ref (h 0)) (C := RX4) (T := TX4) (N := 7) hx hb hts (iT_X4_write_X4) hown hK hP 0 rfl rfl 3 (by decide) (hts (.fieldLink RX4 25 "WordSupper" "sheets" "LWordSupper$Sheets;") (by decide +kernel)) (fun _ h9 => h9) rfl dX4_write_46 ?_
      refine lv_iload_n hx hb dX4_write_49 rfl (lv_at hl 2 rfl) ?_
      refine lv_iload_n hx hb dX4_write_50 rfl (lv_at hl 3 rfl) ?_
      refine lv_iload_n hx hb dX4_write_51 rfl (lv_at hl 4 rfl) ?_
      refine x_callV (As := [.int (iI ((s1 : Nat) : Int)), .int (iI ((i1 : Nat) : Int)), .int (iI v)]) (rest := []) ⟨hx, hb, hml, hown, hts⟩ (kX1_put h SB SS SN s1 i1 v (by omega) (by omega) hSB) (cwV 3 hts gX4_write_X1_put rfl rfl rfl ykVX1_put ⟨Nat.le_of_ble_eq_true rfl, Nat.le_of_ble_eq_true rfl⟩) hP hK hD hS 25 0 rfl rfl rfl [25, 26, 27, 28] rfl (by decide) (fun _ => rfl) (fun _ => wObj x f q kq vq h g ik ++ (wTab cI q T (jc 0) ++ (wTab cI kq K (jc 1) ++ (wTab cI vq V (jc 2) ++ (wSh cI h SB SS (va_up SN (40 * s1 + i1) (ctF v (SB s1))) ++ (wTp cB g tn TB jc ++ (wA cI f 7 F))))))) (fun _ => rfl) rfl hl.1 rfl (Nat.le_of_ble_eq_true rfl) dX4_write_52 ⟨Nat.le_of_ble_eq_true rfl, Nat.le_of_ble_eq_true rfl⟩ (fun _ H locs _ hP hD hS => ?_)
      refine W.eq (g2 := F0 m 55 ls []) rfl ?_
      refine x_iconst hx hb dX4_write_55 ?_
      exact kend ((1, T, K, ik, SB, SS, va_up SN (40 * s1 + i1) (ctF v (SB s1)), tn, TB, F), V, jc) hP hS rfl (by unfold m_write; (try simp only [Int.toNat_natCast]); rw [if_neg (by omega), if_pos (by omega)] <;> rfl) dX4_write_56
    · refine lv_aload_n hx hb dX4_write_38 rfl (lv_at hl 1 rfl) ?_
      refine x_ldc hx hb (-1000001) rfl hown (hts (.constant RX4 44 (-1000001)) (by decide +kernel)) dX4_write_39 ?_
      refine x_callV (As := [.int (iI (-1000001))]) (rest := []) ⟨hx, hb, hml, hown, hts⟩ (kX4_finding x f q kq vq h g ik F (-1000001) 0 (by omega) (by omega)) (cwV 1 hts gX4_write_X4_finding rfl rfl rfl ykVX4_finding ⟨Nat.le_of_ble_eq_true rfl, Nat.le_of_ble_eq_true rfl⟩) hP hK hD hS 0 3 rfl rfl rfl [0, 31] rfl (by decide) (fun _ => rfl) (fun _ => wObj x f q kq vq h g ik ++ (wTab cI q T (jc 0) ++ (wTab cI kq K (jc 1) ++ (wTab cI vq V (jc 2) ++ (wSh cI h SB SS SN ++ (wTp cB g tn TB jc ++ (wA cI f 7 (bmp 0 F)))))))) (fun _ => rfl) rfl hl.1 rfl (Nat.le_of_ble_eq_true rfl) dX4_write_41 ⟨Nat.le_of_ble_eq_true rfl, Nat.le_of_ble_eq_true rfl⟩ (fun _ H locs _ hP hD hS => ?_)
      refine W.eq (g2 := F0 m 44 ls [.int (iI (-1000001))]) rfl ?_
      exact kend (((-1000001), T, K, ik, SB, SS, SN, tn, TB, (bmp 0 F)), V, jc) hP hS rfl (by unfold m_write; (try simp only [Int.toNat_natCast]); rw [if_neg (by omega), if_neg (by omega)] <;> rfl) dX4_write_44
  · refine lv_aload_n hx hb dX4_write_12 rfl (lv_at hl 1 rfl) ?_
    refine lv_iload hx hb dX4_write_13 (lv_at hl 0 rfl) ?_
    refine x_callV (As := [.int (iI (waF SB s0))]) (rest := []) ⟨hx, hb, hml, hown, hts⟩ (kX4_finding x f q kq vq h g ik F (waF SB s0) (-1000001 - waF SB s0).toNat (by omega) (by omega)) (cwV 1 hts gX4_write_X4_finding rfl rfl rfl ykVX4_finding ⟨Nat.le_of_ble_eq_true rfl, Nat.le_of_ble_eq_true rfl⟩) hP hK hD hS 0 3 rfl rfl rfl [0, 31] rfl (by decide) (fun _ => rfl) (fun _ => wObj x f q kq vq h g ik ++ (wTab cI q T (jc 0) ++ (wTab cI kq K (jc 1) ++ (wTab cI vq V (jc 2) ++ (wSh cI h SB SS SN ++ (wTp cB g tn TB jc ++ (wA cI f 7 (bmp (-1000001 - waF SB s0).toNat F)))))))) (fun _ => rfl) rfl hl.1 rfl (Nat.le_of_ble_eq_true rfl) dX4_write_15 ⟨Nat.le_of_ble_eq_true rfl, Nat.le_of_ble_eq_true rfl⟩ (fun _ H locs _ hP hD hS => ?_)
    refine W.eq (g2 := F0 m 18 ls [.int (iI (waF SB s0))]) rfl ?_
    exact kend (((waF SB s0), T, K, ik, SB, SS, SN, tn, TB, (bmp (-1000001 - waF SB s0).toNat F)), V, jc) hP hS rfl (if_pos (by omega)).symm dX4_write_18
theorem ykSX4_copy : yX4_copy.cls ≠ "java/lang/invoke/MethodHandle" ∧ yX4_copy.cls ≠ "java/lang/invoke/VarHandle" ∧ (parseMethodDescriptor yX4_copy.desc).map (fun d => d.parameters.length) = some 5 := by decide +kernel
theorem ykVX4_copy : yX4_copy.cls = RX4 ∧ yX4_copy.cls ≠ "java/lang/invoke/MethodHandle" ∧ yX4_copy.cls ≠ "java/lang/invoke/VarHandle" ∧ (parseMethodDescriptor yX4_copy.desc).map (fun d => d.parameters.length) = some 5 := ⟨rfl, ykSX4_copy⟩
set_option maxRecDepth 20000 in
theorem iT_X4_copy_X4 : ∀ w ∈ u_ws RX4 TX4 7, w ∈ wsX4_copy := by decide +kernel
set_option maxRecDepth 20000 in
theorem iT_X4_copy_X1 : ∀ w ∈ u_ws RX1 TX1 3, w ∈ wsX4_copy := by decide +kernel
set_option maxHeartbeats 4000000 in
set_option maxRecDepth 100000 in
theorem kX4_copy {l : Launch} {D : va_G} {cI cB : ClassId} (x f : Nat) (q kq vq h g : Nat → Nat) (T K : Tb) (ik : Int) (SB SS SN : Nat → Int) (tn : Int) (TB F : Nat → Int) (V : Tb) (jc : Nat → Int) (s0 a0 t2 c0 n : Int) (B : Int) (hG : GI B T K ik SB SS SN tn TB F) (hB : B ≤ 40000) (h_s0 : rI s0) (h_a0 : rI a0) (h_t2 : rI t2) (h_c0 : rI c0) (h_n : rI n) : Ct l yX4_copy wsX4_copy 2 85 D [(cI, .int), (cB, .byte)] [.ref x, .int (iI s0), .int (iI a0), .int (iI t2), .int (iI c0), .int (iI n)] (wC cI cB x f q kq vq h g (T, K, ik, SB, SS, SN, tn, TB, F) V jc) (S := (Int × Gs) × Tb × (Nat → Int)) (fun u => some (.int (iI u.1.1))) (fun u => u.1 = m_copy s0 a0 t2 c0 n T K ik SB SS SN tn TB F) (fun u => wC cI cB x f q kq vq h g u.1.2 u.2.1 u.2.2) := by
  refine CtI.of (cc := cX4_copy) (maxL := 6) (by decide +kernel) rfl (Nat.le_of_ble_eq_true rfl) ?_
  intro pg e s m args below meth c Q A hx hb hml hts hown hP hK hD hS ls hl kend
  have hown : s.vm.findClass RX4 = some m.cls := hown
  have hl : lv_has ls 6 [(0, .ref x), (1, .int (iI s0)), (2, .int (iI a0)), (3, .int (iI t2)), (4, .int (iI c0)), (5, .int (iI n))] := hl
  obtain ⟨hI, hIK, hik, hSB, hSS, hSN, htn, hTB, hF⟩ := id hG
  have hn := Inv_n hI
  have hdy := Inv_d hI
  have hP : va_P D vwCl (wObj x f q kq vq h g ik ++ (wTab cI q T (jc 0) ++ (wTab cI kq K (jc 1) ++ (wTab cI vq V (jc 2) ++ (wSh cI h SB SS SN ++ (wTp cB g tn TB jc ++ (wA cI f 7 F))))))) s.heap := hP
  have hD : va_D A (wObj x f q kq vq h g ik ++ (wTab cI q T (jc 0) ++ (wTab cI kq K (jc 1) ++ (wTab cI vq V (jc 2) ++ (wSh cI h SB SS SN ++ (wTp cB g tn TB jc ++ (wA cI f 7 F))))))) := hD
  refine lv_iload_n hx hb dX4_copy_0 rfl (lv_at hl 1 rfl) ?_
  refine x_callS (As := [.int (iI s0)]) (rest := []) ⟨hx, hb, hml, hown, hts⟩ (kX1_isSheet s0 (by omega)) (va_cwS 1 hts gX4_copy_X1_isSheet rfl rfl rfl ykSX1_isSheet ⟨Nat.le_of_ble_eq_true rfl, Nat.le_of_ble_eq_true rfl⟩) hP hK hD hS [] rfl (by decide) (fun _ => rfl) (fun _ => wObj x f q kq vq h g ik ++ (wTab cI q T (jc 0) ++ (wTab cI kq K (jc 1) ++ (wTab cI vq V (jc 2) ++ (wSh cI h SB SS SN ++ (wTp cB g tn TB jc ++ (wA cI f 7 F))))))) (fun _ => rfl) rfl hl.1 rfl (Nat.le_of_ble_eq_true rfl) dX4_copy_1 ⟨Nat.le_of_ble_eq_true rfl, Nat.le_of_ble_eq_true rfl⟩ (fun _ H locs _ hP hD hS => ?_)
  refine W.eq (g2 := F0 m 4 ls [.int (iI (b2 (decide (0 ≤ s0 ∧ s0 < 4))))]) rfl ?_
  refine x_ifb_eq (tgt := 14) hx hb dX4_copy_4 (by decide) (fun c_4 => ?_) (fun c_4 => ?_)
  · refine lv_aload_n hx hb dX4_copy_14 rfl (lv_at hl 0 rfl) ?_
    refine x_ldc hx hb (-1000001) rfl hown (hts (.constant RX4 44 (-1000001)) (by decide +kernel)) dX4_copy_15 ?_
    refine x_callV (As := [.int (iI (-1000001))]) (rest := []) ⟨hx, hb, hml, hown, hts⟩ (kX4_finding x f q kq vq h g ik F (-1000001) 0 (by omega) (by omega)) (cwV 1 hts gX4_copy_X4_finding rfl rfl rfl ykVX4_finding ⟨Nat.le_of_ble_eq_true rfl, Nat.le_of_ble_eq_true rfl⟩) hP hK hD hS 0 3 rfl rfl rfl [0, 31] rfl (by decide) (fun _ => rfl) (fun _ => wObj x f q kq vq h g ik ++ (wTab cI q T (jc 0) ++ (wTab cI kq K (jc 1) ++ (wTab cI vq V (jc 2) ++ (wSh cI h SB SS SN ++ (wTp cB g tn TB jc ++ (wA cI f 7 (bmp 0 F)))))))) (fun _ => rfl) rfl hl.1 rfl (Nat.le_of_ble_eq_true rfl) dX4_copy_17 ⟨Nat.le_of_ble_eq_true rfl, Nat.le_of_ble_eq_true rfl⟩ (fun _ H locs _ hP hD hS => ?_)
    refine W.eq (g2 := F0 m 20 ls [.int (iI (-1000001))]) rfl ?_
    exact kend (((-1000001), T, K, ik, SB, SS, SN, tn, TB, (bmp 0 F)), V, jc) hP hS rfl (by first | exact ((if_pos (by omega))).symm | (unfold m_copy; (try simp only [Int.toNat_natCast]); rw [if_neg (by omega), if_neg (by omega), if_neg (by omega), if_neg (by omega)] <;> rfl)) dX4_copy_20
  · refine lv_iload_n hx hb dX4_copy_7 rfl (lv_at hl 3 rfl) ?_
    refine x_callS (As := [.int (iI t2)]) (rest := []) ⟨hx, hb, hml, hown, hts⟩ (kX1_isSheet t2 (by omega)) (va_cwS 1 hts gX4_copy_X1_isSheet rfl rfl rfl ykSX1_isSheet ⟨Nat.le_of_ble_eq_true rfl, Nat.le_of_ble_eq_true rfl⟩) hP hK hD hS [] rfl (by decide) (fun _ => rfl) (fun _ => wObj x f q kq vq h g ik ++ (wTab cI q T (jc 0) ++ (wTab cI kq K (jc 1) ++ (wTab cI vq V (jc 2) ++ (wSh cI h SB SS SN ++ (wTp cB g tn TB jc ++ (wA cI f 7 F))))))) (fun _ => rfl) rfl hl.1 rfl (Nat.le_of_ble_eq_true rfl) dX4_copy_8 ⟨Nat.le_of_ble_eq_true rfl, Nat.le_of_ble_eq_true rfl⟩ (fun _ H locs _ hP hD hS => ?_)
    refine W.eq (g2 := F0 m 11 ls [.int (iI (b2 (decide (0 ≤ t2 ∧ t2 < 4))))]) rfl ?_
    refine x_ifb_ne (tgt := 21) hx hb dX4_copy_11 (by decide) (fun c_11 => ?_) (fun c_11 => ?_)
    · obtain ⟨s1, rfl⟩ : ∃ s1 : Nat, s0 = (s1 : Int) := ⟨s0.toNat, by omega⟩
      obtain ⟨t1, rfl⟩ : ∃ t1 : Nat, t2 = (t1 : Int) := ⟨t2.toNat, by omega⟩
      have hz := hSS s1 (by omega)
      have hz2 := hSS t1 (by omega)
      have hz3 := hSB s1 (by omega)
      have hz4 := hSB t1 (by omega)
      refine lv_aload_n hx hb dX4_copy_21 rfl (lv_at hl 0 rfl) ?_
      refine va_get (D := D) (ci := 3) (v := .ref (h 0)) (C := RX4) (T := TX4) (N := 7) hx hb hts (iT_X4_copy_X4) hown hK hP 0 rfl rfl 3 (by decide) (hts (.fieldLink RX4 25 "WordSupper" "sheets" "LWordSupper$Sheets;") (by decide +kernel)) (fun _ h9 => h9) rfl dX4_copy_22 ?_
      refine lv_iload_n hx hb dX4_copy_25 rfl (lv_at hl 1 rfl) ?_
      refine x_callV (As := [.int (iI ((s1 : Nat) : Int))]) (rest := []) ⟨hx, hb, hml, hown, hts⟩ (kX1_isMissing h SB SS SN s1 (by omega) hSB) (cwV 1 hts gX4_copy_X1_isMissing rfl rfl rfl ykVX1_isMissing ⟨Nat.le_of_ble_eq_true rfl, Nat.le_of_ble_eq_true rfl⟩) hP hK hD hS 25 0 rfl rfl rfl [25, 26, 27, 28] rfl (by decide) (fun _ => rfl) (fun _ => wObj x f q kq vq h g ik ++ (wTab cI q T (jc 0) ++ (wTab cI kq K (jc 1) ++ (wTab cI vq V (jc 2) ++ (wSh cI h SB SS SN ++ (wTp cB g tn TB jc ++ (wA cI f 7 F))))))) (fun _ => rfl) rfl hl.1 rfl (Nat.le_of_ble_eq_true rfl) dX4_copy_26 ⟨Nat.le_of_ble_eq_true rfl, Nat.le_of_ble_eq_true rfl⟩ (fun _ H locs _ hP hD hS => ?_)
      refine W.eq (g2 := F0 m 29 ls [.int (iI (b2 (decide (SB s1 = 0))))]) rfl ?_
      refine x_ifb_ne (tgt := 43) hx hb dX4_copy_29 (by decide) (fun c_29 => ?_) (fun c_29 => ?_)
      · refine lv_aload_n hx hb dX4_copy_43 rfl (lv_at hl 0 rfl) ?_
        refine x_ldc hx hb (-1000006) rfl hown (hts (.constant RX4 212 (-1000006)) (by decide +kernel)) dX4_copy_44 ?_
        refine x_callV (As := [.int (iI (-1000006))]) (rest := []) ⟨hx, hb, hml, hown, hts⟩ (kX4_finding x f q kq vq h g ik F (-1000006) 5 (by omega) (by omega)) (cwV 1 hts gX4_copy_X4_finding rfl rfl rfl ykVX4_finding ⟨Nat.le_of_ble_eq_true rfl, Nat.le_of_ble_eq_true rfl⟩) hP hK hD hS 0 3 rfl rfl rfl [0, 31] rfl (by decide) (fun _ => rfl) (fun _ => wObj x f q kq vq h g ik ++ (wTab cI q T (jc 0) ++ (wTab cI kq K (jc 1) ++ (wTab cI vq V (jc 2) ++ (wSh cI h SB SS SN ++ (wTp cB g tn TB jc ++ (wA cI f 7 (bmp 5 F)))))))) (fun _ => rfl) rfl hl.1 rfl (Nat.le_of_ble_eq_true rfl) dX4_copy_46 ⟨Nat.le_of_ble_eq_true rfl, Nat.le_of_ble_eq_true rfl⟩ (fun _ H locs _ hP hD hS => ?_)
        refine W.eq (g2 := F0 m 49 ls [.int (iI (-1000006))]) rfl ?_
        exact kend (((-1000006), T, K, ik, SB, SS, SN, tn, TB, (bmp 5 F)), V, jc) hP hS rfl (by unfold m_copy; (try simp only [Int.toNat_natCast]); rw [if_neg (by omega), if_pos (by omega)] <;> rfl) dX4_copy_49
      · refine lv_aload_n hx hb dX4_copy_32 rfl (lv_at hl 0 rfl) ?_
        refine va_get (D := D) (ci := 3) (v := .ref (h 0)) (C := RX4) (T := TX4) (N := 7) hx hb hts (iT_X4_copy_X4) hown hK hP 0 rfl rfl 3 (by decide) (hts (.fieldLink RX4 25 "WordSupper" "sheets" "LWordSupper$Sheets;") (by decide +kernel)) (fun _ h9 => h9) rfl dX4_copy_33 ?_
        refine lv_iload_n hx hb dX4_copy_36 rfl (lv_at hl 3 rfl) ?_
        refine x_callV (As := [.int (iI ((t1 : Nat) : Int))]) (rest := []) ⟨hx, hb, hml, hown, hts⟩ (kX1_isMissing h SB SS SN t1 (by omega) hSB) (cwV 1 hts gX4_copy_X1_isMissing rfl rfl rfl ykVX1_isMissing ⟨Nat.le_of_ble_eq_true rfl, Nat.le_of_ble_eq_true rfl⟩) hP hK hD hS 25 0 rfl rfl rfl [25, 26, 27, 28] rfl (by decide) (fun _ => rfl) (fun _ => wObj x f q kq vq h g ik ++ (wTab cI q T (jc 0) ++ (wTab cI kq K (jc 1) ++ (wTab cI vq V (jc 2) ++ (wSh cI h SB SS SN ++ (wTp cB g tn TB jc ++ (wA cI f 7 F))))))) (fun _ => rfl) rfl hl.1 rfl (Nat.le_of_ble_eq_true rfl) dX4_copy_37 ⟨Nat.le_of_ble_eq_true rfl, Nat.le_of_ble_eq_true rfl⟩ (fun _ H locs _ hP hD hS => ?_)
        refine W.eq (g2 := F0 m 40 ls [.int (iI (b2 (decide (SB t1 = 0))))]) rfl ?_
        refine x_ifb_eq (tgt := 50) hx hb dX4_copy_40 (by decide) (fun c_40 => ?_) (fun c_40 => ?_)
        · refine lv_aload_n hx hb dX4_copy_50 rfl (lv_at hl 0 rfl) ?_
          refine va_get (D := D) (ci := 3) (v := .ref (h 0)) (C := RX4) (T := TX4) (N := 7) hx hb hts (iT_X4_copy_X4) hown hK hP 0 rfl rfl 3 (by decide) (hts (.fieldLink RX4 25 "WordSupper" "sheets" "LWordSupper$Sheets;") (by decide +kernel)) (fun _ h9 => h9) rfl dX4_copy_51 ?_
          refine va_get (D := D) (ci := 0) (v := .ref (h 1)) (C := RX1) (T := TX1) (N := 3) hx hb hts (iT_X4_copy_X1) hown hK hP 25 rfl rfl 0 (by decide) (hts (.fieldLink RX4 230 "WordSupper$Sheets" "bits" "[I") (by decide +kernel)) (fun _ h9 => h9) rfl dX4_copy_54 ?_
          refine lv_iload_n hx hb dX4_copy_57 rfl (lv_at hl 1 rfl) ?_
          refine x_iald hx hb hK hP 26 0 rfl rfl s1 rfl (by omega) (by decide) (SB s1) (gd_at _ (by omega)) dX4_copy_58 ?_
          refine lv_aload_n hx hb dX4_copy_59 rfl (lv_at hl 0 rfl) ?_
          refine va_get (D := D) (ci := 3) (v := .ref (h 0)) (C := RX4) (T := TX4) (N := 7) hx hb hts (iT_X4_copy_X4) hown hK hP 0 rfl rfl 3 (by decide) (hts (.fieldLink RX4 25 "WordSupper" "sheets" "LWordSupper$Sheets;") (by decide +kernel)) (fun _ h9 => h9) rfl dX4_copy_60 ?_
          refine va_get (D := D) (ci := 0) (v := .ref (h 1)) (C := RX1) (T := TX1) (N := 3) hx hb hts (iT_X4_copy_X1) hown hK hP 25 rfl rfl 0 (by decide) (hts (.fieldLink RX4 230 "WordSupper$Sheets" "bits" "[I") (by decide +kernel)) (fun _ h9 => h9) rfl dX4_copy_63 ?_
          refine lv_iload_n hx hb dX4_copy_66 rfl (lv_at hl 3 rfl) ?_
          refine x_iald hx hb hK hP 26 0 rfl rfl t1 rfl (by omega) (by decide) (SB t1) (gd_at _ (by omega)) dX4_copy_67 ?_
          refine x_icmp_eq (tgt := 78) hx hb (by omega) (by omega) dX4_copy_68 (by decide) (fun c_68 => ?_) (fun c_68 => ?_)
          · refine lv_aload_n hx hb dX4_copy_78 rfl (lv_at hl 0 rfl) ?_
            refine va_get (D := D) (ci := 3) (v := .ref (h 0)) (C := RX4) (T := TX4) (N := 7) hx hb hts (iT_X4_copy_X4) hown hK hP 0 rfl rfl 3 (by decide) (hts (.fieldLink RX4 25 "WordSupper" "sheets" "LWordSupper$Sheets;") (by decide +kernel)) (fun _ h9 => h9) rfl dX4_copy_79 ?_
            refine lv_iload_n hx hb dX4_copy_82 rfl (lv_at hl 1 rfl) ?_
            refine lv_iload_n hx hb dX4_copy_83 rfl (lv_at hl 2 rfl) ?_
            refine lv_iload hx hb dX4_copy_84 (lv_at hl 5 rfl) ?_
            refine x_callV (As := [.int (iI ((s1 : Nat) : Int)), .int (iI a0), .int (iI n)]) (rest := []) ⟨hx, hb, hml, hown, hts⟩ (kX1_hasRun h SB SS SN s1 a0 n (by omega) (by omega) (by omega) hSS) (cwV 3 hts gX4_copy_X1_hasRun rfl rfl rfl ykVX1_hasRun ⟨Nat.le_of_ble_eq_true rfl, Nat.le_of_ble_eq_true rfl⟩) hP hK hD hS 25 0 rfl rfl rfl [25, 26, 27, 28] rfl (by decide) (fun _ => rfl) (fun _ => wObj x f q kq vq h g ik ++ (wTab cI q T (jc 0) ++ (wTab cI kq K (jc 1) ++ (wTab cI vq V (jc 2) ++ (wSh cI h SB SS SN ++ (wTp cB g tn TB jc ++ (wA cI f 7 F))))))) (fun _ => rfl) rfl hl.1 rfl (Nat.le_of_ble_eq_true rfl) dX4_copy_86 ⟨Nat.le_of_ble_eq_true rfl, Nat.le_of_ble_eq_true rfl⟩ (fun _ H locs _ hP hD hS => ?_)
            refine W.eq (g2 := F0 m 89 ls [.int (iI (b2 (decide (0 ≤ a0 ∧ 0 ≤ n ∧ a0 + n ≤ SS s1))))]) rfl ?_
            refine x_ifb_eq (tgt := 107) hx hb dX4_copy_89 (by decide) (fun c_89 => ?_) (fun c_89 => ?_)
            · refine lv_aload_n hx hb dX4_copy_107 rfl (lv_at hl 0 rfl) ?_
              refine x_ldc hx hb (-1000001) rfl hown (hts (.constant RX4 44 (-1000001)) (by decide +kernel)) dX4_copy_108 ?_
              refine x_callV (As := [.int (iI (-1000001))]) (rest := []) ⟨hx, hb, hml, hown, hts⟩ (kX4_finding x f q kq vq h g ik F (-1000001) 0 (by omega) (by omega)) (cwV 1 hts gX4_copy_X4_finding rfl rfl rfl ykVX4_finding ⟨Nat.le_of_ble_eq_true rfl, Nat.le_of_ble_eq_true rfl⟩) hP hK hD hS 0 3 rfl rfl rfl [0, 31] rfl (by decide) (fun _ => rfl) (fun _ => wObj x f q kq vq h g ik ++ (wTab cI q T (jc 0) ++ (wTab cI kq K (jc 1) ++ (wTab cI vq V (jc 2) ++ (wSh cI h SB SS SN ++ (wTp cB g tn TB jc ++ (wA cI f 7 (bmp 0 F)))))))) (fun _ => rfl) rfl hl.1 rfl (Nat.le_of_ble_eq_true rfl) dX4_copy_110 ⟨Nat.le_of_ble_eq_true rfl, Nat.le_of_ble_eq_true rfl⟩ (fun _ H locs _ hP hD hS => ?_)
              refine W.eq (g2 := F0 m 113 ls [.int (iI (-1000001))]) rfl ?_
              exact kend (((-1000001), T, K, ik, SB, SS, SN, tn, TB, (bmp 0 F)), V, jc) hP hS rfl (by first | exact ((if_pos (by omega))).symm | (unfold m_copy; (try simp only [Int.toNat_natCast]); rw [if_neg (by omega), if_neg (by omega), if_neg (by omega), if_neg (by omega)] <;> rfl)) dX4_copy_113
            · refine lv_aload_n hx hb dX4_copy_92 rfl (lv_at hl 0 rfl) ?_
              refine va_get (D := D) (ci := 3) (v := .ref (h 0)) (C := RX4) (T := TX4) (N := 7) hx hb hts (iT_X4_copy_X4) hown hK hP 0 rfl rfl 3 (by decide) (hts (.fieldLink RX4 25 "WordSupper" "sheets" "LWordSupper$Sheets;") (by decide +kernel)) (fun _ h9 => h9) rfl dX4_copy_93 ?_
              refine lv_iload_n hx hb dX4_copy_96 rfl (lv_at hl 3 rfl) ?_
              refine lv_iload hx hb dX4_copy_97 (lv_at hl 4 rfl) ?_
              refine lv_iload hx hb dX4_copy_99 (lv_at hl 5 rfl) ?_
              refine x_callV (As := [.int (iI ((t1 : Nat) : Int)), .int (iI c0), .int (iI n)]) (rest := []) ⟨hx, hb, hml, hown, hts⟩ (kX1_hasRun h SB SS SN t1 c0 n (by omega) (by omega) (by omega) hSS) (cwV 3 hts gX4_copy_X1_hasRun rfl rfl rfl ykVX1_hasRun ⟨Nat.le_of_ble_eq_true rfl, Nat.le_of_ble_eq_true rfl⟩) hP hK hD hS 25 0 rfl rfl rfl [25, 26, 27, 28] rfl (by decide) (fun _ => rfl) (fun _ => wObj x f q kq vq h g ik ++ (wTab cI q T (jc 0) ++ (wTab cI kq K (jc 1) ++ (wTab cI vq V (jc 2) ++ (wSh cI h SB SS SN ++ (wTp cB g tn TB jc ++ (wA cI f 7 F))))))) (fun _ => rfl) rfl hl.1 rfl (Nat.le_of_ble_eq_true rfl) dX4_copy_101 ⟨Nat.le_of_ble_eq_true rfl, Nat.le_of_ble_eq_true rfl⟩ (fun _ H locs _ hP hD hS => ?_)
              refine W.eq (g2 := F0 m 104 ls [.int (iI (b2 (decide (0 ≤ c0 ∧ 0 ≤ n ∧ c0 + n ≤ SS t1))))]) rfl ?_
              refine x_ifb_ne (tgt := 114) hx hb dX4_copy_104 (by decide) (fun c_104 => ?_) (fun c_104 => ?_)
              · obtain ⟨a1, rfl⟩ : ∃ a1 : Nat, a0 = (a1 : Int) := ⟨a0.toNat, by omega⟩
                obtain ⟨c1, rfl⟩ : ∃ c1 : Nat, c0 = (c1 : Int) := ⟨c0.toNat, by omega⟩
                obtain ⟨n0, rfl⟩ : ∃ n0 : Nat, n = (n0 : Int) := ⟨n.toNat, by omega⟩
                refine lv_aload_n hx hb dX4_copy_114 rfl (lv_at hl 0 rfl) ?_
                refine va_get (D := D) (ci := 3) (v := .ref (h 0)) (C := RX4) (T := TX4) (N := 7) hx hb hts (iT_X4_copy_X4) hown hK hP 0 rfl rfl 3 (by decide) (hts (.fieldLink RX4 25 "WordSupper" "sheets" "LWordSupper$Sheets;") (by decide +kernel)) (fun _ h9 => h9) rfl dX4_copy_115 ?_
                refine lv_iload_n hx hb dX4_copy_118 rfl (lv_at hl 1 rfl) ?_
                refine lv_iload_n hx hb dX4_copy_119 rfl (lv_at hl 2 rfl) ?_
                refine lv_iload_n hx hb dX4_copy_120 rfl (lv_at hl 3 rfl) ?_
                refine lv_iload hx hb dX4_copy_121 (lv_at hl 4 rfl) ?_
                refine lv_iload hx hb dX4_copy_123 (lv_at hl 5 rfl) ?_
                refine x_callV (As := [.int (iI ((s1 : Nat) : Int)), .int (iI ((a1 : Nat) : Int)), .int (iI ((t1 : Nat) : Int)), .int (iI ((c1 : Nat) : Int)), .int (iI ((n0 : Nat) : Int))]) (rest := []) ⟨hx, hb, hml, hown, hts⟩ (kX1_bring h SB SS SN s1 a1 t1 c1 n0 (by omega) (by omega) (by omega) (by omega)) (cwV 5 hts gX4_copy_X1_bring rfl rfl rfl ykVX1_bring ⟨Nat.le_of_ble_eq_true rfl, Nat.le_of_ble_eq_true rfl⟩) hP hK hD hS 25 0 rfl rfl rfl [25, 26, 27, 28] rfl (by decide) (fun _ => rfl) (fun _ => wObj x f q kq vq h g ik ++ (wTab cI q T (jc 0) ++ (wTab cI kq K (jc 1) ++ (wTab cI vq V (jc 2) ++ (wSh cI h SB SS (va_cpy SN SN (40 * s1 + a1) (40 * t1 + c1) n0) ++ (wTp cB g tn TB jc ++ (wA cI f 7 F))))))) (fun _ => rfl) rfl hl.1 rfl (Nat.le_of_ble_eq_true rfl) dX4_copy_125 ⟨Nat.le_of_ble_eq_true rfl, Nat.le_of_ble_eq_true rfl⟩ (fun _ H locs _ hP hD hS => ?_)
                refine W.eq (g2 := F0 m 128 ls []) rfl ?_
                refine lv_iload hx hb dX4_copy_128 (lv_at hl 5 rfl) ?_
                exact kend ((((n0 : Nat) : Int), T, K, ik, SB, SS, va_cpy SN SN (40 * s1 + a1) (40 * t1 + c1) n0, tn, TB, F), V, jc) hP hS rfl (by unfold m_copy; (try simp only [Int.toNat_natCast]); rw [if_neg (by omega), if_neg (by omega), if_neg (by omega), if_pos (by omega)] <;> rfl) dX4_copy_130
              · refine lv_aload_n hx hb dX4_copy_107 rfl (lv_at hl 0 rfl) ?_
                refine x_ldc hx hb (-1000001) rfl hown (hts (.constant RX4 44 (-1000001)) (by decide +kernel)) dX4_copy_108 ?_
                refine x_callV (As := [.int (iI (-1000001))]) (rest := []) ⟨hx, hb, hml, hown, hts⟩ (kX4_finding x f q kq vq h g ik F (-1000001) 0 (by omega) (by omega)) (cwV 1 hts gX4_copy_X4_finding rfl rfl rfl ykVX4_finding ⟨Nat.le_of_ble_eq_true rfl, Nat.le_of_ble_eq_true rfl⟩) hP hK hD hS 0 3 rfl rfl rfl [0, 31] rfl (by decide) (fun _ => rfl) (fun _ => wObj x f q kq vq h g ik ++ (wTab cI q T (jc 0) ++ (wTab cI kq K (jc 1) ++ (wTab cI vq V (jc 2) ++ (wSh cI h SB SS SN ++ (wTp cB g tn TB jc ++ (wA cI f 7 (bmp 0 F)))))))) (fun _ => rfl) rfl hl.1 rfl (Nat.le_of_ble_eq_true rfl) dX4_copy_110 ⟨Nat.le_of_ble_eq_true rfl, Nat.le_of_ble_eq_true rfl⟩ (fun _ H locs _ hP hD hS => ?_)
                refine W.eq (g2 := F0 m 113 ls [.int (iI (-1000001))]) rfl ?_
                exact kend (((-1000001), T, K, ik, SB, SS, SN, tn, TB, (bmp 0 F)), V, jc) hP hS rfl (by first | exact ((if_pos (by omega))).symm | (unfold m_copy; (try simp only [Int.toNat_natCast]); rw [if_neg (by omega), if_neg (by omega), if_neg (by omega), if_neg (by omega)] <;> rfl)) dX4_copy_113
          · refine lv_aload_n hx hb dX4_copy_71 rfl (lv_at hl 0 rfl) ?_
            refine x_ldc hx hb (-1000003) rfl hown (hts (.constant RX4 216 (-1000003)) (by decide +kernel)) dX4_copy_72 ?_
            refine x_callV (As := [.int (iI (-1000003))]) (rest := []) ⟨hx, hb, hml, hown, hts⟩ (kX4_finding x f q kq vq h g ik F (-1000003) 2 (by omega) (by omega)) (cwV 1 hts gX4_copy_X4_finding rfl rfl rfl ykVX4_finding ⟨Nat.le_of_ble_eq_true rfl, Nat.le_of_ble_eq_true rfl⟩) hP hK hD hS 0 3 rfl rfl rfl [0, 31] rfl (by decide) (fun _ => rfl) (fun _ => wObj x f q kq vq h g ik ++ (wTab cI q T (jc 0) ++ (wTab cI kq K (jc 1) ++ (wTab cI vq V (jc 2) ++ (wSh cI h SB SS SN ++ (wTp cB g tn TB jc ++ (wA cI f 7 (bmp 2 F)))))))) (fun _ => rfl) rfl hl.1 rfl (Nat.le_of_ble_eq_true rfl) dX4_copy_74 ⟨Nat.le_of_ble_eq_true rfl, Nat.le_of_ble_eq_true rfl⟩ (fun _ H locs _ hP hD hS => ?_)
            refine W.eq (g2 := F0 m 77 ls [.int (iI (-1000003))]) rfl ?_
            exact kend (((-1000003), T, K, ik, SB, SS, SN, tn, TB, (bmp 2 F)), V, jc) hP hS rfl (by unfold m_copy; (try simp only [Int.toNat_natCast]); rw [if_neg (by omega), if_neg (by omega), if_pos (by omega)] <;> rfl) dX4_copy_77
        · refine lv_aload_n hx hb dX4_copy_43 rfl (lv_at hl 0 rfl) ?_
          refine x_ldc hx hb (-1000006) rfl hown (hts (.constant RX4 212 (-1000006)) (by decide +kernel)) dX4_copy_44 ?_
          refine x_callV (As := [.int (iI (-1000006))]) (rest := []) ⟨hx, hb, hml, hown, hts⟩ (kX4_finding x f q kq vq h g ik F (-1000006) 5 (by omega) (by omega)) (cwV 1 hts gX4_copy_X4_finding rfl rfl rfl ykVX4_finding ⟨Nat.le_of_ble_eq_true rfl, Nat.le_of_ble_eq_true rfl⟩) hP hK hD hS 0 3 rfl rfl rfl [0, 31] rfl (by decide) (fun _ => rfl) (fun _ => wObj x f q kq vq h g ik ++ (wTab cI q T (jc 0) ++ (wTab cI kq K (jc 1) ++ (wTab cI vq V (jc 2) ++ (wSh cI h SB SS SN ++ (wTp cB g tn TB jc ++ (wA cI f 7 (bmp 5 F)))))))) (fun _ => rfl) rfl hl.1 rfl (Nat.le_of_ble_eq_true rfl) dX4_copy_46 ⟨Nat.le_of_ble_eq_true rfl, Nat.le_of_ble_eq_true rfl⟩ (fun _ H locs _ hP hD hS => ?_)
          refine W.eq (g2 := F0 m 49 ls [.int (iI (-1000006))]) rfl ?_
          exact kend (((-1000006), T, K, ik, SB, SS, SN, tn, TB, (bmp 5 F)), V, jc) hP hS rfl (by unfold m_copy; (try simp only [Int.toNat_natCast]); rw [if_neg (by omega), if_pos (by omega)] <;> rfl) dX4_copy_49
    · refine lv_aload_n hx hb dX4_copy_14 rfl (lv_at hl 0 rfl) ?_
      refine x_ldc hx hb (-1000001) rfl hown (hts (.constant RX4 44 (-1000001)) (by decide +kernel)) dX4_copy_15 ?_
      refine x_callV (As := [.int (iI (-1000001))]) (rest := []) ⟨hx, hb, hml, hown, hts⟩ (kX4_finding x f q kq vq h g ik F (-1000001) 0 (by omega) (by omega)) (cwV 1 hts gX4_copy_X4_finding rfl rfl rfl ykVX4_finding ⟨Nat.le_of_ble_eq_true rfl, Nat.le_of_ble_eq_true rfl⟩) hP hK hD hS 0 3 rfl rfl rfl [0, 31] rfl (by decide) (fun _ => rfl) (fun _ => wObj x f q kq vq h g ik ++ (wTab cI q T (jc 0) ++ (wTab cI kq K (jc 1) ++ (wTab cI vq V (jc 2) ++ (wSh cI h SB SS SN ++ (wTp cB g tn TB jc ++ (wA cI f 7 (bmp 0 F)))))))) (fun _ => rfl) rfl hl.1 rfl (Nat.le_of_ble_eq_true rfl) dX4_copy_17 ⟨Nat.le_of_ble_eq_true rfl, Nat.le_of_ble_eq_true rfl⟩ (fun _ H locs _ hP hD hS => ?_)
      refine W.eq (g2 := F0 m 20 ls [.int (iI (-1000001))]) rfl ?_
      exact kend (((-1000001), T, K, ik, SB, SS, SN, tn, TB, (bmp 0 F)), V, jc) hP hS rfl (by first | exact ((if_pos (by omega))).symm | (unfold m_copy; (try simp only [Int.toNat_natCast]); rw [if_neg (by omega), if_neg (by omega), if_neg (by omega), if_neg (by omega)] <;> rfl)) dX4_copy_20
theorem ykSX4_load : yX4_load.cls ≠ "java/lang/invoke/MethodHandle" ∧ yX4_load.cls ≠ "java/lang/invoke/VarHandle" ∧ (parseMethodDescriptor yX4_load.desc).map (fun d => d.parameters.length) = some 1 := by decide +kernel
theorem ykVX4_load : yX4_load.cls = RX4 ∧ yX4_load.cls ≠ "java/lang/invoke/MethodHandle" ∧ yX4_load.cls ≠ "java/lang/invoke/VarHandle" ∧ (parseMethodDescriptor yX4_load.desc).map (fun d => d.parameters.length) = some 1 := ⟨rfl, ykSX4_load⟩
set_option maxRecDepth 20000 in
theorem iT_X4_load_X4 : ∀ w ∈ u_ws RX4 TX4 7, w ∈ wsX4_load := by decide +kernel
set_option maxRecDepth 20000 in
theorem iT_X4_load_X1 : ∀ w ∈ u_ws RX1 TX1 3, w ∈ wsX4_load := by decide +kernel
set_option maxRecDepth 20000 in
theorem iT_X4_load_X2 : ∀ w ∈ u_ws RX2 TX2 12, w ∈ wsX4_load := by decide +kernel
set_option maxHeartbeats 4000000 in
set_option maxRecDepth 100000 in
theorem kX4_load {l : Launch} {D : va_G} {cI cB : ClassId} (x f : Nat) (q kq vq h g : Nat → Nat) (T K : Tb) (ik : Int) (SB SS SN : Nat → Int) (tn : Int) (TB F : Nat → Int) (V : Tb) (jc : Nat → Int) (s0 : Int) (B : Int) (hG : GI B T K ik SB SS SN tn TB F) (hB : B ≤ 40000) (h_s0 : rI s0) : Ct l yX4_load wsX4_load 2 44 D [(cI, .int), (cB, .byte)] [.ref x, .int (iI s0)] (wC cI cB x f q kq vq h g (T, K, ik, SB, SS, SN, tn, TB, F) V jc) (S := (Int × Gs) × Tb × (Nat → Int)) (fun u => some (.int (iI u.1.1))) (fun u => u.1 = m_load s0 T K ik SB SS SN tn TB F) (fun u => wC cI cB x f q kq vq h g u.1.2 u.2.1 u.2.2) := by
  refine CtI.of (cc := cX4_load) (maxL := 5) (by decide +kernel) rfl (Nat.le_of_ble_eq_true rfl) ?_
  intro pg e s m args below meth c Q A hx hb hml hts hown hP hK hD hS ls hl kend
  have hown : s.vm.findClass RX4 = some m.cls := hown
  have hl : lv_has ls 5 [(0, .ref x), (1, .int (iI s0))] := hl
  obtain ⟨hI, hIK, hik, hSB, hSS, hSN, htn, hTB, hF⟩ := id hG
  have hn := Inv_n hI
  have hdy := Inv_d hI
  have hP : va_P D vwCl (wObj x f q kq vq h g ik ++ (wTab cI q T (jc 0) ++ (wTab cI kq K (jc 1) ++ (wTab cI vq V (jc 2) ++ (wSh cI h SB SS SN ++ (wTp cB g tn TB jc ++ (wA cI f 7 F))))))) s.heap := hP
  have hD : va_D A (wObj x f q kq vq h g ik ++ (wTab cI q T (jc 0) ++ (wTab cI kq K (jc 1) ++ (wTab cI vq V (jc 2) ++ (wSh cI h SB SS SN ++ (wTp cB g tn TB jc ++ (wA cI f 7 F))))))) := hD
  have hwa := waF_c SB s0
  refine lv_aload_n hx hb dX4_load_0 rfl (lv_at hl 0 rfl) ?_
  refine lv_iload_n hx hb dX4_load_1 rfl (lv_at hl 1 rfl) ?_
  refine x_callV (As := [.int (iI s0)]) (rest := []) ⟨hx, hb, hml, hown, hts⟩ (kX4_wrongSheet x f q kq vq h g ik SB SS SN s0 (by omega) hSB) (cwV 1 hts gX4_load_X4_wrongSheet rfl rfl rfl ykVX4_wrongSheet ⟨Nat.le_of_ble_eq_true rfl, Nat.le_of_ble_eq_true rfl⟩) hP hK hD hS 0 3 rfl rfl rfl [0, 25, 26, 27, 28] rfl (by decide) (fun _ => rfl) (fun _ => wObj x f q kq vq h g ik ++ (wTab cI q T (jc 0) ++ (wTab cI kq K (jc 1) ++ (wTab cI vq V (jc 2) ++ (wSh cI h SB SS SN ++ (wTp cB g tn TB jc ++ (wA cI f 7 F))))))) (fun _ => rfl) rfl hl.1 rfl (Nat.le_of_ble_eq_true rfl) dX4_load_2 ⟨Nat.le_of_ble_eq_true rfl, Nat.le_of_ble_eq_true rfl⟩ (fun _ H locs _ hP hD hS => ?_)
  refine W.eq (g2 := F0 m 5 ls [.int (iI (waF SB s0))]) rfl ?_
  refine lv_istore_n (lv' := [(2, .int (iI (waF SB s0))), (0, .ref x), (1, .int (iI s0))]) hx hb dX4_load_5 rfl hl (by decide) rfl (fun ls hl => ?_)
  refine lv_iload_n hx hb dX4_load_6 rfl (lv_at hl 0 rfl) ?_
  refine x_if_eq (tgt := 16) hx hb (by omega) dX4_load_7 (by decide) (fun c_7 => ?_) (fun c_7 => ?_)
  · have hs9 := waF_0 (show waF SB s0 = 0 by omega)
    obtain ⟨s1, rfl⟩ : ∃ s1 : Nat, s0 = (s1 : Int) := ⟨s0.toNat, by omega⟩
    have hz := hSS s1 (by omega)
    refine x_iconst hx hb dX4_load_16 ?_
    refine lv_istore_n (lv' := [(3, .int (iI 0)), (2, .int (iI (waF SB ((s1 : Nat) : Int)))), (0, .ref x), (1, .int (iI ((s1 : Nat) : Int)))]) hx hb dX4_load_17 rfl hl (by decide) rfl (fun ls hl => ?_)
    refine x_bipush hx hb dX4_load_18 (by decide) ?_
    refine lv_aload_n hx hb dX4_load_20 rfl (lv_at hl 2 rfl) ?_
    refine va_get (D := D) (ci := 3) (v := .ref (h 0)) (C := RX4) (T := TX4) (N := 7) hx hb hts (iT_X4_load_X4) hown hK hP 0 rfl rfl 3 (by decide) (hts (.fieldLink RX4 25 "WordSupper" "sheets" "LWordSupper$Sheets;") (by decide +kernel)) (fun _ h9 => h9) rfl dX4_load_21 ?_
    refine va_get (D := D) (ci := 0) (v := .ref (h 2)) (C := RX1) (T := TX1) (N := 3) hx hb hts (iT_X4_load_X1) hown hK hP 25 rfl rfl 1 (by decide) (hts (.fieldLink RX4 180 "WordSupper$Sheets" "size" "[I") (by decide +kernel)) (fun _ h9 => h9) rfl dX4_load_24 ?_
    refine lv_iload_n hx hb dX4_load_27 rfl (lv_at hl 3 rfl) ?_
    refine x_iald hx hb hK hP 27 0 rfl rfl s1 rfl (by omega) (by decide) (SS s1) (gd_at _ (by omega)) dX4_load_28 ?_
    refine x_mmin hx hb (hml.trans hl.1.symm) hown (hts (.methodLink RX4 240 Lib.Math.min.name) (by decide +kernel)) (hts (.static Lib.Math.min.name) (by decide +kernel)) (hts (.initialized "java/lang/Math") (by decide +kernel)) (hts (.code Lib.Math.min.name Lib.Math.min.code 2 (some .int)) (by decide +kernel)) (Nat.le_of_ble_eq_true rfl) (Nat.le_of_ble_eq_true rfl) (Nat.le_of_ble_eq_true rfl) (Nat.le_of_ble_eq_true rfl) (by decide) (by omega) dX4_load_29 ?_
    refine lv_istore (lv' := [(4, .int (iI (min 6 (SS s1)))), (3, .int (iI 0)), (2, .int (iI (waF SB ((s1 : Nat) : Int)))), (0, .ref x), (1, .int (iI ((s1 : Nat) : Int)))]) hx hb dX4_load_32 hl (by decide) rfl (fun ls hl => ?_)
    have L34 : ∀ (k t : Nat) (Tt : Tb) (H : Heap) (locs : List Loc) (ls : Array Slot), t + k = (min 6 (SS s1)).toNat → (ldF SN (40 * s1) k t Tt = ldF SN (40 * s1) (min 6 (SS s1)).toNat 0 T) → va_P D vwCl (wObj x f q kq vq h g ik ++ (wTab cI q Tt (jc 0) ++ (wTab cI kq K (jc 1) ++ (wTab cI vq V (jc 2) ++ (wSh cI h SB SS SN ++ (wTp cB g tn TB jc ++ (wA cI f 7 F))))))) H → va_D A (wObj x f q kq vq h g ik ++ (wTab cI q Tt (jc 0) ++ (wTab cI kq K (jc 1) ++ (wTab cI vq V (jc 2) ++ (wSh cI h SB SS SN ++ (wTp cB g tn TB jc ++ (wA cI f 7 F))))))) → va_S A s.heap H locs → lv_has ls 5 [(0, .ref x), (1, .int (iI ((s1 : Nat) : Int))), (2, .int (iI (waF SB ((s1 : Nat) : Int)))), (3, .int (iI ((t : Nat) : Int))), (4, .int (iI (min 6 (SS s1))))] → W pg l e { frames := 2, cells := 0, slots := 0, locals := 44 } s m args below meth c H locs 0 0 Q (F0 m 34 ls []) := by
      intro k
      induction k with
      | zero =>
        intro t Tt H locs ls hkt hr hP hD hS hl
        refine lv_iload_n hx hb dX4_load_34 rfl (lv_at hl 3 rfl) ?_
        refine lv_iload hx hb dX4_load_35 (lv_at hl 4 rfl) ?_
        refine x_icmp_ge (tgt := 82) hx hb (by omega) (by omega) dX4_load_37 (by decide) (fun c_37 => ?_) (fun c_37 => ?_)
        · refine lv_iload_n hx hb dX4_load_82 rfl (lv_at hl 3 rfl) ?_
          exact kend ((((t : Nat) : Int), Tt, K, ik, SB, SS, SN, tn, TB, F), V, jc) hP hS rfl (by unfold m_load; rw [if_neg (by omega), Int.toNat_natCast, ← hr] <;> rfl) dX4_load_83
        · exfalso; omega
      | succ k ih =>
        intro t Tt H locs ls hkt hr hP hD hS hl
        refine lv_iload_n hx hb dX4_load_34 rfl (lv_at hl 3 rfl) ?_
        refine lv_iload hx hb dX4_load_35 (lv_at hl 4 rfl) ?_
        refine x_icmp_ge (tgt := 82) hx hb (by omega) (by omega) dX4_load_37 (by decide) (fun c_37 => ?_) (fun c_37 => ?_)
        · exfalso; omega
        · refine lv_aload_n hx hb dX4_load_40 rfl (lv_at hl 0 rfl) ?_
          refine va_get (D := D) (ci := 3) (v := .ref (h 0)) (C := RX4) (T := TX4) (N := 7) hx hb hts (iT_X4_load_X4) hown hK hP 0 rfl rfl 3 (by decide) (hts (.fieldLink RX4 25 "WordSupper" "sheets" "LWordSupper$Sheets;") (by decide +kernel)) (fun _ h9 => h9) rfl dX4_load_41 ?_
          refine lv_iload_n hx hb dX4_load_44 rfl (lv_at hl 1 rfl) ?_
          refine lv_iload_n hx hb dX4_load_45 rfl (lv_at hl 3 rfl) ?_
          refine x_callV (As := [.int (iI ((s1 : Nat) : Int)), .int (iI ((t : Nat) : Int))]) (rest := []) ⟨hx, hb, hml, hown, hts⟩ (kX1_number h SB SS SN s1 t (by omega) (by omega)) (cwV 2 hts gX4_load_X1_number rfl rfl rfl ykVX1_number ⟨Nat.le_of_ble_eq_true rfl, Nat.le_of_ble_eq_true rfl⟩) hP hK hD hS 25 0 rfl rfl rfl [25, 26, 27, 28] rfl (by decide) (fun _ => rfl) (fun _ => wObj x f q kq vq h g ik ++ (wTab cI q Tt (jc 0) ++ (wTab cI kq K (jc 1) ++ (wTab cI vq V (jc 2) ++ (wSh cI h SB SS SN ++ (wTp cB g tn TB jc ++ (wA cI f 7 F))))))) (fun _ => rfl) rfl hl.1 rfl (Nat.le_of_ble_eq_true rfl) dX4_load_46 ⟨Nat.le_of_ble_eq_true rfl, Nat.le_of_ble_eq_true rfl⟩ (fun _ H locs _ hP hD hS => ?_)
          refine W.eq (g2 := F0 m 49 ls [.int (iI (SN (40 * s1 + t)))]) rfl ?_
          have hq1 := hSN (40 * s1 + t) (by omega)
          refine x_iconst hx hb dX4_load_49 ?_
          refine x_bipush hx hb dX4_load_50 (by decide) ?_
          refine x_callS (As := [.int (iI (SN (40 * s1 + t))), .int (iI 0), .int (iI 20)]) (rest := []) ⟨hx, hb, hml, hown, hts⟩ (kX4_isWithin (SN (40 * s1 + t)) 0 20 (by omega) (by decide) (by decide)) (va_cwS 3 hts gX4_load_X4_isWithin rfl rfl rfl ykSX4_isWithin ⟨Nat.le_of_ble_eq_true rfl, Nat.le_of_ble_eq_true rfl⟩) hP hK hD hS [] rfl (by decide) (fun _ => rfl) (fun _ => wObj x f q kq vq h g ik ++ (wTab cI q Tt (jc 0) ++ (wTab cI kq K (jc 1) ++ (wTab cI vq V (jc 2) ++ (wSh cI h SB SS SN ++ (wTp cB g tn TB jc ++ (wA cI f 7 F))))))) (fun _ => rfl) rfl hl.1 rfl (Nat.le_of_ble_eq_true rfl) dX4_load_52 ⟨Nat.le_of_ble_eq_true rfl, Nat.le_of_ble_eq_true rfl⟩ (fun _ H locs _ hP hD hS => ?_)
          refine W.eq (g2 := F0 m 55 ls [.int (iI (b2 (decide (0 ≤ (SN (40 * s1 + t)) ∧ (SN (40 * s1 + t)) ≤ 20))))]) rfl ?_
          refine x_ifb_eq (tgt := 82) hx hb dX4_load_55 (by decide) (fun c_55 => ?_) (fun c_55 => ?_)
          · refine lv_iload_n hx hb dX4_load_82 rfl (lv_at hl 3 rfl) ?_
            exact kend ((((t : Nat) : Int), Tt, K, ik, SB, SS, SN, tn, TB, F), V, jc) hP hS rfl (by unfold m_load; rw [if_neg (by omega), Int.toNat_natCast, ← hr, ldF, if_neg (by omega)] <;> rfl) dX4_load_83
          · refine lv_aload_n hx hb dX4_load_58 rfl (lv_at hl 0 rfl) ?_
            refine va_get (D := D) (ci := 3) (v := .ref (q 0)) (C := RX4) (T := TX4) (N := 7) hx hb hts (iT_X4_load_X4) hown hK hP 0 rfl rfl 0 (by decide) (hts (.fieldLink RX4 10 "WordSupper" "table" "LWordSupper$Table;") (by decide +kernel)) (fun _ h9 => h9) rfl dX4_load_59 ?_
            refine va_get (D := D) (ci := 1) (v := .ref (q 1)) (C := RX2) (T := TX2) (N := 12) hx hb hts (iT_X4_load_X2) hown hK hP 1 rfl rfl 5 (by decide) (hts (.fieldLink RX4 57 "WordSupper$Table" "listed" "[I") (by decide +kernel)) (fun _ h9 => h9) rfl dX4_load_62 ?_
            refine lv_iload_n hx hb dX4_load_65 rfl (lv_at hl 3 rfl) ?_
            refine lv_aload_n hx hb dX4_load_66 rfl (lv_at hl 0 rfl) ?_
            refine va_get (D := D) (ci := 3) (v := .ref (h 0)) (C := RX4) (T := TX4) (N := 7) hx hb hts (iT_X4_load_X4) hown hK hP 0 rfl rfl 3 (by decide) (hts (.fieldLink RX4 25 "WordSupper" "sheets" "LWordSupper$Sheets;") (by decide +kernel)) (fun _ h9 => h9) rfl dX4_load_67 ?_
            refine lv_iload_n hx hb dX4_load_70 rfl (lv_at hl 1 rfl) ?_
            refine lv_iload_n hx hb dX4_load_71 rfl (lv_at hl 3 rfl) ?_
            refine x_callV (As := [.int (iI ((s1 : Nat) : Int)), .int (iI ((t : Nat) : Int))]) (rest := [.int (iI ((t : Nat) : Int)), .ref (q 1)]) ⟨hx, hb, hml, hown, hts⟩ (kX1_number h SB SS SN s1 t (by omega) (by omega)) (cwV 2 hts gX4_load_X1_number rfl rfl rfl ykVX1_number ⟨Nat.le_of_ble_eq_true rfl, Nat.le_of_ble_eq_true rfl⟩) hP hK hD hS 25 0 rfl rfl rfl [25, 26, 27, 28] rfl (by decide) (fun _ => rfl) (fun _ => wObj x f q kq vq h g ik ++ (wTab cI q Tt (jc 0) ++ (wTab cI kq K (jc 1) ++ (wTab cI vq V (jc 2) ++ (wSh cI h SB SS SN ++ (wTp cB g tn TB jc ++ (wA cI f 7 F))))))) (fun _ => rfl) rfl hl.1 rfl (Nat.le_of_ble_eq_true rfl) dX4_load_72 ⟨Nat.le_of_ble_eq_true rfl, Nat.le_of_ble_eq_true rfl⟩ (fun _ H locs _ hP hD hS => ?_)
            refine W.eq (g2 := F0 m 75 ls [.int (iI (SN (40 * s1 + t))), .int (iI ((t : Nat) : Int)), .ref (q 1)]) rfl ?_
            refine x_iast hx hb hK hP hD hS 2 0 rfl rfl t rfl (by omega) (by decide) (wObj x f q kq vq h g ik ++ (wTab cI q (va_up Tt (4 + t) (SN (40 * s1 + t))) (jc 0) ++ (wTab cI kq K (jc 1) ++ (wTab cI vq V (jc 2) ++ (wSh cI h SB SS SN ++ (wTp cB g tn TB jc ++ (wA cI f 7 F))))))) (by rw [← wT_listed cI q Tt (jc 0) (SN (40 * s1 + t)) t (by omega)]; rfl) dX4_load_75 (fun H locs hP hD hS => ?_)
            refine x_iinc hx hb 3 ((t + 1 : Nat) : Int) (by omega) [(3, .int (iI ((t + 1 : Nat) : Int))), (0, .ref x), (1, .int (iI ((s1 : Nat) : Int))), (2, .int (iI (waF SB ((s1 : Nat) : Int)))), (4, .int (iI (min 6 (SS s1))))] dX4_load_76 hl rfl (by decide) rfl (fun ls hl => ?_)
            refine lv_goto (tgt := 34) hx hb dX4_load_79 (by decide) ?_
            exact ih (t + 1) (va_up Tt (4 + t) (SN (40 * s1 + t))) _ _ _ (by omega) (by rw [← hr, ldF, if_pos (by omega)]) hP hD hS (lv_sub hl [1, 2, 3, 0, 4] rfl)
    exact L34 (min 6 (SS s1)).toNat 0 T _ _ _ (by omega) rfl hP hD hS (lv_sub hl [3, 4, 2, 1, 0] rfl)
  · refine lv_aload_n hx hb dX4_load_10 rfl (lv_at hl 1 rfl) ?_
    refine lv_iload_n hx hb dX4_load_11 rfl (lv_at hl 0 rfl) ?_
    refine x_callV (As := [.int (iI (waF SB s0))]) (rest := []) ⟨hx, hb, hml, hown, hts⟩ (kX4_finding x f q kq vq h g ik F (waF SB s0) (-1000001 - waF SB s0).toNat (by omega) (by omega)) (cwV 1 hts gX4_load_X4_finding rfl rfl rfl ykVX4_finding ⟨Nat.le_of_ble_eq_true rfl, Nat.le_of_ble_eq_true rfl⟩) hP hK hD hS 0 3 rfl rfl rfl [0, 31] rfl (by decide) (fun _ => rfl) (fun _ => wObj x f q kq vq h g ik ++ (wTab cI q T (jc 0) ++ (wTab cI kq K (jc 1) ++ (wTab cI vq V (jc 2) ++ (wSh cI h SB SS SN ++ (wTp cB g tn TB jc ++ (wA cI f 7 (bmp (-1000001 - waF SB s0).toNat F)))))))) (fun _ => rfl) rfl hl.1 rfl (Nat.le_of_ble_eq_true rfl) dX4_load_12 ⟨Nat.le_of_ble_eq_true rfl, Nat.le_of_ble_eq_true rfl⟩ (fun _ H locs _ hP hD hS => ?_)
    refine W.eq (g2 := F0 m 15 ls [.int (iI (waF SB s0))]) rfl ?_
    exact kend (((waF SB s0), T, K, ik, SB, SS, SN, tn, TB, (bmp (-1000001 - waF SB s0).toNat F)), V, jc) hP hS rfl (if_pos (by omega)).symm dX4_load_15
theorem ykSX4_judge : yX4_judge.cls ≠ "java/lang/invoke/MethodHandle" ∧ yX4_judge.cls ≠ "java/lang/invoke/VarHandle" ∧ (parseMethodDescriptor yX4_judge.desc).map (fun d => d.parameters.length) = some 1 := by decide +kernel
theorem ykVX4_judge : yX4_judge.cls = RX4 ∧ yX4_judge.cls ≠ "java/lang/invoke/MethodHandle" ∧ yX4_judge.cls ≠ "java/lang/invoke/VarHandle" ∧ (parseMethodDescriptor yX4_judge.desc).map (fun d => d.parameters.length) = some 1 := ⟨rfl, ykSX4_judge⟩
set_option maxRecDepth 20000 in
theorem iT_X4_judge_X4 : ∀ w ∈ u_ws RX4 TX4 7, w ∈ wsX4_judge := by decide +kernel
set_option maxRecDepth 20000 in
theorem iT_X4_judge_X1 : ∀ w ∈ u_ws RX1 TX1 3, w ∈ wsX4_judge := by decide +kernel
set_option maxHeartbeats 4000000 in
set_option maxRecDepth 100000 in
theorem kX4_judge {l : Launch} {D : va_G} {cI cB : ClassId} (x f : Nat) (q kq vq h g : Nat → Nat) (T K : Tb) (ik : Int) (SB SS SN : Nat → Int) (tn : Int) (TB F : Nat → Int) (V : Tb) (jc : Nat → Int) (s0 : Int) (B : Int) (hG : GI B T K ik SB SS SN tn TB F) (hB : B ≤ 40000) (h_s0 : rI s0) : Ct l yX4_judge wsX4_judge 2 44 D [(cI, .int), (cB, .byte)] [.ref x, .int (iI s0)] (wC cI cB x f q kq vq h g (T, K, ik, SB, SS, SN, tn, TB, F) V jc) (S := (Int × Gs) × Tb × (Nat → Int)) (fun u => some (.int (iI u.1.1))) (fun u => u.1 = m_judge s0 T K ik SB SS SN tn TB F) (fun u => wC cI cB x f q kq vq h g u.1.2 u.2.1 u.2.2) := by
  refine CtI.of (cc := cX4_judge) (maxL := 4) (by decide +kernel) rfl (Nat.le_of_ble_eq_true rfl) ?_
  intro pg e s m args below meth c Q A hx hb hml hts hown hP hK hD hS ls hl kend
  have hown : s.vm.findClass RX4 = some m.cls := hown
  have hl : lv_has ls 4 [(0, .ref x), (1, .int (iI s0))] := hl
  obtain ⟨hI, hIK, hik, hSB, hSS, hSN, htn, hTB, hF⟩ := id hG
  have hn := Inv_n hI
  have hdy := Inv_d hI
  have hP : va_P D vwCl (wObj x f q kq vq h g ik ++ (wTab cI q T (jc 0) ++ (wTab cI kq K (jc 1) ++ (wTab cI vq V (jc 2) ++ (wSh cI h SB SS SN ++ (wTp cB g tn TB jc ++ (wA cI f 7 F))))))) s.heap := hP
  have hD : va_D A (wObj x f q kq vq h g ik ++ (wTab cI q T (jc 0) ++ (wTab cI kq K (jc 1) ++ (wTab cI vq V (jc 2) ++ (wSh cI h SB SS SN ++ (wTp cB g tn TB jc ++ (wA cI f 7 F))))))) := hD
  have hwa := waF_c SB s0
  refine lv_aload_n hx hb dX4_judge_0 rfl (lv_at hl 0 rfl) ?_
  refine lv_iload_n hx hb dX4_judge_1 rfl (lv_at hl 1 rfl) ?_
  refine x_callV (As := [.int (iI s0)]) (rest := []) ⟨hx, hb, hml, hown, hts⟩ (kX4_wrongSheet x f q kq vq h g ik SB SS SN s0 (by omega) hSB) (cwV 1 hts gX4_judge_X4_wrongSheet rfl rfl rfl ykVX4_wrongSheet ⟨Nat.le_of_ble_eq_true rfl, Nat.le_of_ble_eq_true rfl⟩) hP hK hD hS 0 3 rfl rfl rfl [0, 25, 26, 27, 28] rfl (by decide) (fun _ => rfl) (fun _ => wObj x f q kq vq h g ik ++ (wTab cI q T (jc 0) ++ (wTab cI kq K (jc 1) ++ (wTab cI vq V (jc 2) ++ (wSh cI h SB SS SN ++ (wTp cB g tn TB jc ++ (wA cI f 7 F))))))) (fun _ => rfl) rfl hl.1 rfl (Nat.le_of_ble_eq_true rfl) dX4_judge_2 ⟨Nat.le_of_ble_eq_true rfl, Nat.le_of_ble_eq_true rfl⟩ (fun _ H locs _ hP hD hS => ?_)
  refine W.eq (g2 := F0 m 5 ls [.int (iI (waF SB s0))]) rfl ?_
  refine lv_istore_n (lv' := [(2, .int (iI (waF SB s0))), (0, .ref x), (1, .int (iI s0))]) hx hb dX4_judge_5 rfl hl (by decide) rfl (fun ls hl => ?_)
  refine lv_iload_n hx hb dX4_judge_6 rfl (lv_at hl 0 rfl) ?_
  refine x_if_eq (tgt := 16) hx hb (by omega) dX4_judge_7 (by decide) (fun c_7 => ?_) (fun c_7 => ?_)
  · have hs9 := waF_0 (show waF SB s0 = 0 by omega)
    obtain ⟨s1, rfl⟩ : ∃ s1 : Nat, s0 = (s1 : Int) := ⟨s0.toNat, by omega⟩
    have hz := hSS s1 (by omega)
    refine x_iconst hx hb dX4_judge_16 ?_
    refine lv_istore_n (lv' := [(3, .int (iI 0)), (2, .int (iI (waF SB ((s1 : Nat) : Int)))), (0, .ref x), (1, .int (iI ((s1 : Nat) : Int)))]) hx hb dX4_judge_17 rfl hl (by decide) rfl (fun ls hl => ?_)
    have L18 : ∀ (k t : Nat) (H : Heap) (locs : List Loc) (ls : Array Slot), t + k = (SS s1).toNat → (juF T SN (40 * s1) k t = juF T SN (40 * s1) (SS s1).toNat 0) → va_P D vwCl (wObj x f q kq vq h g ik ++ (wTab cI q T (jc 0) ++ (wTab cI kq K (jc 1) ++ (wTab cI vq V (jc 2) ++ (wSh cI h SB SS SN ++ (wTp cB g tn TB jc ++ (wA cI f 7 F))))))) H → va_D A (wObj x f q kq vq h g ik ++ (wTab cI q T (jc 0) ++ (wTab cI kq K (jc 1) ++ (wTab cI vq V (jc 2) ++ (wSh cI h SB SS SN ++ (wTp cB g tn TB jc ++ (wA cI f 7 F))))))) → va_S A s.heap H locs → lv_has ls 4 [(0, .ref x), (1, .int (iI ((s1 : Nat) : Int))), (2, .int (iI (waF SB ((s1 : Nat) : Int)))), (3, .int (iI ((t : Nat) : Int)))] → W pg l e { frames := 2, cells := 0, slots := 0, locals := 44 } s m args below meth c H locs 0 0 Q (F0 m 18 ls []) := by
      intro k
      induction k with
      | zero =>
        intro t H locs ls hkt hr hP hD hS hl
        refine lv_iload_n hx hb dX4_judge_18 rfl (lv_at hl 3 rfl) ?_
        refine lv_aload_n hx hb dX4_judge_19 rfl (lv_at hl 0 rfl) ?_
        refine va_get (D := D) (ci := 3) (v := .ref (h 0)) (C := RX4) (T := TX4) (N := 7) hx hb hts (iT_X4_judge_X4) hown hK hP 0 rfl rfl 3 (by decide) (hts (.fieldLink RX4 25 "WordSupper" "sheets" "LWordSupper$Sheets;") (by decide +kernel)) (fun _ h9 => h9) rfl dX4_judge_20 ?_
        refine va_get (D := D) (ci := 0) (v := .ref (h 2)) (C := RX1) (T := TX1) (N := 3) hx hb hts (iT_X4_judge_X1) hown hK hP 25 rfl rfl 1 (by decide) (hts (.fieldLink RX4 180 "WordSupper$Sheets" "size" "[I") (by decide +kernel)) (fun _ h9 => h9) rfl dX4_judge_23 ?_
        refine lv_iload_n hx hb dX4_judge_26 rfl (lv_at hl 1 rfl) ?_
        refine x_iald hx hb hK hP 27 0 rfl rfl s1 rfl (by omega) (by decide) (SS s1) (gd_at _ (by omega)) dX4_judge_27 ?_
        refine x_icmp_ge (tgt := 72) hx hb (by omega) (by omega) dX4_judge_28 (by decide) (fun c_28 => ?_) (fun c_28 => ?_)
        · refine x_iconst hx hb dX4_judge_72 ?_
          exact kend ((0, T, K, ik, SB, SS, SN, tn, TB, F), V, jc) hP hS rfl (by unfold m_judge; rw [if_neg (by omega), Int.toNat_natCast, ← hr] <;> rfl) dX4_judge_73
        · exfalso; omega
      | succ k ih =>
        intro t H locs ls hkt hr hP hD hS hl
        refine lv_iload_n hx hb dX4_judge_18 rfl (lv_at hl 3 rfl) ?_
        refine lv_aload_n hx hb dX4_judge_19 rfl (lv_at hl 0 rfl) ?_
        refine va_get (D := D) (ci := 3) (v := .ref (h 0)) (C := RX4) (T := TX4) (N := 7) hx hb hts (iT_X4_judge_X4) hown hK hP 0 rfl rfl 3 (by decide) (hts (.fieldLink RX4 25 "WordSupper" "sheets" "LWordSupper$Sheets;") (by decide +kernel)) (fun _ h9 => h9) rfl dX4_judge_20 ?_
        refine va_get (D := D) (ci := 0) (v := .ref (h 2)) (C := RX1) (T := TX1) (N := 3) hx hb hts (iT_X4_judge_X1) hown hK hP 25 rfl rfl 1 (by decide) (hts (.fieldLink RX4 180 "WordSupper$Sheets" "size" "[I") (by decide +kernel)) (fun _ h9 => h9) rfl dX4_judge_23 ?_
        refine lv_iload_n hx hb dX4_judge_26 rfl (lv_at hl 1 rfl) ?_
        refine x_iald hx hb hK hP 27 0 rfl rfl s1 rfl (by omega) (by decide) (SS s1) (gd_at _ (by omega)) dX4_judge_27 ?_
        refine x_icmp_ge (tgt := 72) hx hb (by omega) (by omega) dX4_judge_28 (by decide) (fun c_28 => ?_) (fun c_28 => ?_)
        · exfalso; omega
        · refine lv_aload_n hx hb dX4_judge_31 rfl (lv_at hl 0 rfl) ?_
          refine va_get (D := D) (ci := 3) (v := .ref (q 0)) (C := RX4) (T := TX4) (N := 7) hx hb hts (iT_X4_judge_X4) hown hK hP 0 rfl rfl 0 (by decide) (hts (.fieldLink RX4 10 "WordSupper" "table" "LWordSupper$Table;") (by decide +kernel)) (fun _ h9 => h9) rfl dX4_judge_32 ?_
          refine lv_iload_n hx hb dX4_judge_35 rfl (lv_at hl 3 rfl) ?_
          refine x_callV (As := [.int (iI ((t : Nat) : Int))]) (rest := []) ⟨hx, hb, hml, hown, hts⟩ (kX2_isSeat q T (jc 0) ((t : Nat) : Int) (by omega) (by omega)) (cwV 1 hts gX4_judge_X2_isSeat rfl rfl rfl ykVX2_isSeat ⟨Nat.le_of_ble_eq_true rfl, Nat.le_of_ble_eq_true rfl⟩) hP hK hD hS 1 1 rfl rfl rfl [1, 2, 3, 4, 5, 6, 7, 8] rfl (by decide) (fun _ => rfl) (fun _ => wObj x f q kq vq h g ik ++ (wTab cI q T (jc 0) ++ (wTab cI kq K (jc 1) ++ (wTab cI vq V (jc 2) ++ (wSh cI h SB SS SN ++ (wTp cB g tn TB jc ++ (wA cI f 7 F))))))) (fun _ => rfl) rfl hl.1 rfl (Nat.le_of_ble_eq_true rfl) dX4_judge_36 ⟨Nat.le_of_ble_eq_true rfl, Nat.le_of_ble_eq_true rfl⟩ (fun _ H locs _ hP hD hS => ?_)
          refine W.eq (g2 := F0 m 39 ls [.int (iI (b2 (decide (0 ≤ ((t : Nat) : Int) ∧ ((t : Nat) : Int) < T 0))))]) rfl ?_
          refine x_ifb_eq (tgt := 62) hx hb dX4_judge_39 (by decide) (fun c_39 => ?_) (fun c_39 => ?_)
          · refine x_iconst hx hb dX4_judge_62 ?_
            refine lv_iload_n hx hb dX4_judge_63 rfl (lv_at hl 3 rfl) ?_
            refine x_iadd hx hb dX4_judge_64 ?_
            refine x_topi ((1 + t : Nat) : Int) (by omega) ?_
            exact kend ((((1 + t : Nat) : Int), T, K, ik, SB, SS, SN, tn, TB, F), V, jc) hP hS rfl (by unfold m_judge; rw [if_neg (by omega), Int.toNat_natCast, ← hr, juF, if_neg (by omega)] <;> rfl) dX4_judge_65
          · refine lv_aload_n hx hb dX4_judge_42 rfl (lv_at hl 0 rfl) ?_
            refine va_get (D := D) (ci := 3) (v := .ref (q 0)) (C := RX4) (T := TX4) (N := 7) hx hb hts (iT_X4_judge_X4) hown hK hP 0 rfl rfl 0 (by decide) (hts (.fieldLink RX4 10 "WordSupper" "table" "LWordSupper$Table;") (by decide +kernel)) (fun _ h9 => h9) rfl dX4_judge_43 ?_
            refine lv_iload_n hx hb dX4_judge_46 rfl (lv_at hl 3 rfl) ?_
            refine x_callV (As := [.int (iI ((t : Nat) : Int))]) (rest := []) ⟨hx, hb, hml, hown, hts⟩ (kX2_left q T (jc 0) t (by omega)) (cwV 1 hts gX4_judge_X2_left rfl rfl rfl ykVX2_left ⟨Nat.le_of_ble_eq_true rfl, Nat.le_of_ble_eq_true rfl⟩) hP hK hD hS 1 1 rfl rfl rfl [1, 2, 3, 4, 5, 6, 7, 8] rfl (by decide) (fun _ => rfl) (fun _ => wObj x f q kq vq h g ik ++ (wTab cI q T (jc 0) ++ (wTab cI kq K (jc 1) ++ (wTab cI vq V (jc 2) ++ (wSh cI h SB SS SN ++ (wTp cB g tn TB jc ++ (wA cI f 7 F))))))) (fun _ => rfl) rfl hl.1 rfl (Nat.le_of_ble_eq_true rfl) dX4_judge_47 ⟨Nat.le_of_ble_eq_true rfl, Nat.le_of_ble_eq_true rfl⟩ (fun _ H locs _ hP hD hS => ?_)
            refine W.eq (g2 := F0 m 50 ls [.int (iI (lfF T t))]) rfl ?_
            refine lv_aload_n hx hb dX4_judge_50 rfl (lv_at hl 0 rfl) ?_
            refine va_get (D := D) (ci := 3) (v := .ref (h 0)) (C := RX4) (T := TX4) (N := 7) hx hb hts (iT_X4_judge_X4) hown hK hP 0 rfl rfl 3 (by decide) (hts (.fieldLink RX4 25 "WordSupper" "sheets" "LWordSupper$Sheets;") (by decide +kernel)) (fun _ h9 => h9) rfl dX4_judge_51 ?_
            refine lv_iload_n hx hb dX4_judge_54 rfl (lv_at hl 1 rfl) ?_
            refine lv_iload_n hx hb dX4_judge_55 rfl (lv_at hl 3 rfl) ?_
            refine x_callV (As := [.int (iI ((s1 : Nat) : Int)), .int (iI ((t : Nat) : Int))]) (rest := [.int (iI (lfF T t))]) ⟨hx, hb, hml, hown, hts⟩ (kX1_number h SB SS SN s1 t (by omega) (by omega)) (cwV 2 hts gX4_judge_X1_number rfl rfl rfl ykVX1_number ⟨Nat.le_of_ble_eq_true rfl, Nat.le_of_ble_eq_true rfl⟩) hP hK hD hS 25 0 rfl rfl rfl [25, 26, 27, 28] rfl (by decide) (fun _ => rfl) (fun _ => wObj x f q kq vq h g ik ++ (wTab cI q T (jc 0) ++ (wTab cI kq K (jc 1) ++ (wTab cI vq V (jc 2) ++ (wSh cI h SB SS SN ++ (wTp cB g tn TB jc ++ (wA cI f 7 F))))))) (fun _ => rfl) rfl hl.1 rfl (Nat.le_of_ble_eq_true rfl) dX4_judge_56 ⟨Nat.le_of_ble_eq_true rfl, Nat.le_of_ble_eq_true rfl⟩ (fun _ H locs _ hP hD hS => ?_)
            refine W.eq (g2 := F0 m 59 ls [.int (iI (SN (40 * s1 + t))), .int (iI (lfF T t))]) rfl ?_
            have hq1 := hSN (40 * s1 + t) (by omega)
            have hq2 := Inv_lf (p := t) hI (by omega)
            refine x_icmp_eq (tgt := 66) hx hb (by omega) (by omega) dX4_judge_59 (by decide) (fun c_59 => ?_) (fun c_59 => ?_)
            · refine x_iinc hx hb 3 ((t + 1 : Nat) : Int) (by omega) [(3, .int (iI ((t + 1 : Nat) : Int))), (0, .ref x), (1, .int (iI ((s1 : Nat) : Int))), (2, .int (iI (waF SB ((s1 : Nat) : Int))))] dX4_judge_66 hl rfl (by decide) rfl (fun ls hl => ?_)
              refine lv_goto (tgt := 18) hx hb dX4_judge_69 (by decide) ?_
              exact ih (t + 1) _ _ _ (by omega) (by rw [← hr, juF, if_pos (by omega)]) hP hD hS (lv_sub hl [1, 2, 3, 0] rfl)
            · refine x_iconst hx hb dX4_judge_62 ?_
              refine lv_iload_n hx hb dX4_judge_63 rfl (lv_at hl 3 rfl) ?_
              refine x_iadd hx hb dX4_judge_64 ?_
              refine x_topi ((1 + t : Nat) : Int) (by omega) ?_
              exact kend ((((1 + t : Nat) : Int), T, K, ik, SB, SS, SN, tn, TB, F), V, jc) hP hS rfl (by unfold m_judge; rw [if_neg (by omega), Int.toNat_natCast, ← hr, juF, if_neg (by omega)] <;> rfl) dX4_judge_65
    exact L18 (SS s1).toNat 0 _ _ _ (by omega) rfl hP hD hS (lv_sub hl [2, 3, 1, 0] rfl)
  · refine lv_aload_n hx hb dX4_judge_10 rfl (lv_at hl 1 rfl) ?_
    refine lv_iload_n hx hb dX4_judge_11 rfl (lv_at hl 0 rfl) ?_
    refine x_callV (As := [.int (iI (waF SB s0))]) (rest := []) ⟨hx, hb, hml, hown, hts⟩ (kX4_finding x f q kq vq h g ik F (waF SB s0) (-1000001 - waF SB s0).toNat (by omega) (by omega)) (cwV 1 hts gX4_judge_X4_finding rfl rfl rfl ykVX4_finding ⟨Nat.le_of_ble_eq_true rfl, Nat.le_of_ble_eq_true rfl⟩) hP hK hD hS 0 3 rfl rfl rfl [0, 31] rfl (by decide) (fun _ => rfl) (fun _ => wObj x f q kq vq h g ik ++ (wTab cI q T (jc 0) ++ (wTab cI kq K (jc 1) ++ (wTab cI vq V (jc 2) ++ (wSh cI h SB SS SN ++ (wTp cB g tn TB jc ++ (wA cI f 7 (bmp (-1000001 - waF SB s0).toNat F)))))))) (fun _ => rfl) rfl hl.1 rfl (Nat.le_of_ble_eq_true rfl) dX4_judge_12 ⟨Nat.le_of_ble_eq_true rfl, Nat.le_of_ble_eq_true rfl⟩ (fun _ H locs _ hP hD hS => ?_)
    refine W.eq (g2 := F0 m 15 ls [.int (iI (waF SB s0))]) rfl ?_
    exact kend (((waF SB s0), T, K, ik, SB, SS, SN, tn, TB, (bmp (-1000001 - waF SB s0).toNat F)), V, jc) hP hS rfl (if_pos (by omega)).symm dX4_judge_15
theorem ykSX4_image : yX4_image.cls ≠ "java/lang/invoke/MethodHandle" ∧ yX4_image.cls ≠ "java/lang/invoke/VarHandle" ∧ (parseMethodDescriptor yX4_image.desc).map (fun d => d.parameters.length) = some 0 := by decide +kernel
theorem ykVX4_image : yX4_image.cls = RX4 ∧ yX4_image.cls ≠ "java/lang/invoke/MethodHandle" ∧ yX4_image.cls ≠ "java/lang/invoke/VarHandle" ∧ (parseMethodDescriptor yX4_image.desc).map (fun d => d.parameters.length) = some 0 := ⟨rfl, ykSX4_image⟩
set_option maxRecDepth 20000 in
theorem iT_X4_image_X4 : ∀ w ∈ u_ws RX4 TX4 7, w ∈ wsX4_image := by decide +kernel
set_option maxHeartbeats 4000000 in
set_option maxRecDepth 100000 in
theorem kX4_image {l : Launch} {D : va_G} {cI cB : ClassId} (x f : Nat) (q kq vq h g : Nat → Nat) (T K : Tb) (ik : Int) (SB SS SN : Nat → Int) (tn : Int) (TB F : Nat → Int) (V : Tb) (jc : Nat → Int) (B : Int) (hG : GI B T K ik SB SS SN tn TB F) (hB : B ≤ 40000)  : Ct l yX4_image wsX4_image 2 81 D [(cI, .int), (cB, .byte)] [.ref x] (wC cI cB x f q kq vq h g (T, K, ik, SB, SS, SN, tn, TB, F) V jc) (S := (Int × Gs) × Tb × (Nat → Int)) (fun u => some (.int (iI u.1.1))) (fun u => u.1 = m_image T K ik SB SS SN tn TB F) (fun u => wC cI cB x f q kq vq h g u.1.2 u.2.1 u.2.2) := by
  refine CtI.of (cc := cX4_image) (maxL := 1) (by decide +kernel) rfl (Nat.le_of_ble_eq_true rfl) ?_
  intro pg e s m args below meth c Q A hx hb hml hts hown hP hK hD hS ls hl kend
  have hown : s.vm.findClass RX4 = some m.cls := hown
  have hl : lv_has ls 1 [(0, .ref x)] := hl
  obtain ⟨hI, hIK, hik, hSB, hSS, hSN, htn, hTB, hF⟩ := id hG
  have hn := Inv_n hI
  have hdy := Inv_d hI
  have hP : va_P D vwCl (wObj x f q kq vq h g ik ++ (wTab cI q T (jc 0) ++ (wTab cI kq K (jc 1) ++ (wTab cI vq V (jc 2) ++ (wSh cI h SB SS SN ++ (wTp cB g tn TB jc ++ (wA cI f 7 F))))))) s.heap := hP
  have hD : va_D A (wObj x f q kq vq h g ik ++ (wTab cI q T (jc 0) ++ (wTab cI kq K (jc 1) ++ (wTab cI vq V (jc 2) ++ (wSh cI h SB SS SN ++ (wTp cB g tn TB jc ++ (wA cI f 7 F))))))) := hD
  refine lv_aload_n hx hb dX4_image_0 rfl (lv_at hl 0 rfl) ?_
  refine va_get (D := D) (ci := 3) (v := .ref (kq 0)) (C := RX4) (T := TX4) (N := 7) hx hb hts (iT_X4_image_X4) hown hK hP 0 rfl rfl 1 (by decide) (hts (.fieldLink RX4 16 "WordSupper" "kept" "LWordSupper$Table;") (by decide +kernel)) (fun _ h9 => h9) rfl dX4_image_1 ?_
  refine lv_aload_n hx hb dX4_image_4 rfl (lv_at hl 0 rfl) ?_
  refine va_get (D := D) (ci := 3) (v := .ref (q 0)) (C := RX4) (T := TX4) (N := 7) hx hb hts (iT_X4_image_X4) hown hK hP 0 rfl rfl 0 (by decide) (hts (.fieldLink RX4 10 "WordSupper" "table" "LWordSupper$Table;") (by decide +kernel)) (fun _ h9 => h9) rfl dX4_image_5 ?_
  refine x_callV (As := [.ref (q 0)]) (rest := []) ⟨hx, hb, hml, hown, hts⟩ (kX2_become kq K (jc 1) q T (jc 0) ) (cwV 1 hts gX4_image_X2_become rfl rfl rfl ykVX2_become ⟨Nat.le_of_ble_eq_true rfl, Nat.le_of_ble_eq_true rfl⟩) hP hK hD hS 9 1 rfl rfl rfl [9, 10, 11, 12, 13, 14, 15, 16, 1, 2, 3, 4, 5, 6, 7, 8] rfl (by decide) (fun _ => rfl) (fun _ => wObj x f q kq vq h g ik ++ (wTab cI q T (jc 0) ++ (wTab cI kq T (jc 1) ++ (wTab cI vq V (jc 2) ++ (wSh cI h SB SS SN ++ (wTp cB g tn TB jc ++ (wA cI f 7 F))))))) (fun _ => rfl) rfl hl.1 rfl (Nat.le_of_ble_eq_true rfl) dX4_image_8 ⟨Nat.le_of_ble_eq_true rfl, Nat.le_of_ble_eq_true rfl⟩ (fun _ H locs _ hP hD hS => ?_)
  refine W.eq (g2 := F0 m 11 ls []) rfl ?_
  refine lv_aload_n hx hb dX4_image_11 rfl (lv_at hl 0 rfl) ?_
  refine x_iconst hx hb dX4_image_12 ?_
  refine x_putI (D := D) (ty := .boolean) (C := RX4) (T := TX4) (N := 7) hx hb 3 hts (iT_X4_image_X4) tyX4 tyX4_ok nmX4 hown hK hP hD hS 0 rfl rfl 6 (by decide) (hts (.fieldLink RX4 245 "WordSupper" "isKept" "Z") (by decide +kernel)) (fun _ h9 => h9) rfl (by decide +kernel) rfl rfl (Nat.le_of_ble_eq_true rfl) (wObj x f q kq vq h g 1 ++ (wTab cI q T (jc 0) ++ (wTab cI kq T (jc 1) ++ (wTab cI vq V (jc 2) ++ (wSh cI h SB SS SN ++ (wTp cB g tn TB jc ++ (wA cI f 7 F))))))) (rfl) dX4_image_13 (fun H locs hP hD hS => ?_)
  refine x_iconst hx hb dX4_image_16 ?_
  exact kend ((1, T, T, 1, SB, SS, SN, tn, TB, F), V, jc) hP hS rfl rfl dX4_image_17
theorem ykSX4_undo : yX4_undo.cls ≠ "java/lang/invoke/MethodHandle" ∧ yX4_undo.cls ≠ "java/lang/invoke/VarHandle" ∧ (parseMethodDescriptor yX4_undo.desc).map (fun d => d.parameters.length) = some 0 := by decide +kernel
theorem ykVX4_undo : yX4_undo.cls = RX4 ∧ yX4_undo.cls ≠ "java/lang/invoke/MethodHandle" ∧ yX4_undo.cls ≠ "java/lang/invoke/VarHandle" ∧ (parseMethodDescriptor yX4_undo.desc).map (fun d => d.parameters.length) = some 0 := ⟨rfl, ykSX4_undo⟩
set_option maxRecDepth 20000 in
theorem iT_X4_undo_X4 : ∀ w ∈ u_ws RX4 TX4 7, w ∈ wsX4_undo := by decide +kernel
set_option maxRecDepth 20000 in
theorem iT_X4_undo_X2 : ∀ w ∈ u_ws RX2 TX2 12, w ∈ wsX4_undo := by decide +kernel
set_option maxHeartbeats 4000000 in
set_option maxRecDepth 100000 in
theorem kX4_undo {l : Launch} {D : va_G} {cI cB : ClassId} (x f : Nat) (q kq vq h g : Nat → Nat) (T K : Tb) (ik : Int) (SB SS SN : Nat → Int) (tn : Int) (TB F : Nat → Int) (V : Tb) (jc : Nat → Int) (B : Int) (hG : GI B T K ik SB SS SN tn TB F) (hB : B ≤ 40000)  : Ct l yX4_undo wsX4_undo 2 81 D [(cI, .int), (cB, .byte)] [.ref x] (wC cI cB x f q kq vq h g (T, K, ik, SB, SS, SN, tn, TB, F) V jc) (S := (Int × Gs) × Tb × (Nat → Int)) (fun u => some (.int (iI u.1.1))) (fun u => u.1 = m_undo T K ik SB SS SN tn TB F) (fun u => wC cI cB x f q kq vq h g u.1.2 u.2.1 u.2.2) := by
  refine CtI.of (cc := cX4_undo) (maxL := 1) (by decide +kernel) rfl (Nat.le_of_ble_eq_true rfl) ?_
  intro pg e s m args below meth c Q A hx hb hml hts hown hP hK hD hS ls hl kend
  have hown : s.vm.findClass RX4 = some m.cls := hown
  have hl : lv_has ls 1 [(0, .ref x)] := hl
  obtain ⟨hI, hIK, hik, hSB, hSS, hSN, htn, hTB, hF⟩ := id hG
  have hn := Inv_n hI
  have hdy := Inv_d hI
  have hP : va_P D vwCl (wObj x f q kq vq h g ik ++ (wTab cI q T (jc 0) ++ (wTab cI kq K (jc 1) ++ (wTab cI vq V (jc 2) ++ (wSh cI h SB SS SN ++ (wTp cB g tn TB jc ++ (wA cI f 7 F))))))) s.heap := hP
  have hD : va_D A (wObj x f q kq vq h g ik ++ (wTab cI q T (jc 0) ++ (wTab cI kq K (jc 1) ++ (wTab cI vq V (jc 2) ++ (wSh cI h SB SS SN ++ (wTp cB g tn TB jc ++ (wA cI f 7 F))))))) := hD
  refine lv_aload_n hx hb dX4_undo_0 rfl (lv_at hl 0 rfl) ?_
  refine va_get (D := D) (ci := 3) (v := .int (iI ik)) (C := RX4) (T := TX4) (N := 7) hx hb hts (iT_X4_undo_X4) hown hK hP 0 rfl rfl 6 (by decide) (hts (.fieldLink RX4 245 "WordSupper" "isKept" "Z") (by decide +kernel)) (fun _ h9 => h9) rfl dX4_undo_1 ?_
  refine x_if_ne (tgt := 14) hx hb (by omega) dX4_undo_4 (by decide) (fun c_4 => ?_) (fun c_4 => ?_)
  · refine lv_aload_n hx hb dX4_undo_14 rfl (lv_at hl 0 rfl) ?_
    refine va_get (D := D) (ci := 3) (v := .ref (q 0)) (C := RX4) (T := TX4) (N := 7) hx hb hts (iT_X4_undo_X4) hown hK hP 0 rfl rfl 0 (by decide) (hts (.fieldLink RX4 10 "WordSupper" "table" "LWordSupper$Table;") (by decide +kernel)) (fun _ h9 => h9) rfl dX4_undo_15 ?_
    refine lv_aload_n hx hb dX4_undo_18 rfl (lv_at hl 0 rfl) ?_
    refine va_get (D := D) (ci := 3) (v := .ref (kq 0)) (C := RX4) (T := TX4) (N := 7) hx hb hts (iT_X4_undo_X4) hown hK hP 0 rfl rfl 1 (by decide) (hts (.fieldLink RX4 16 "WordSupper" "kept" "LWordSupper$Table;") (by decide +kernel)) (fun _ h9 => h9) rfl dX4_undo_19 ?_
    refine x_callV (As := [.ref (kq 0)]) (rest := []) ⟨hx, hb, hml, hown, hts⟩ (kX2_become q T (jc 0) kq K (jc 1) ) (cwV 1 hts gX4_undo_X2_become rfl rfl rfl ykVX2_become ⟨Nat.le_of_ble_eq_true rfl, Nat.le_of_ble_eq_true rfl⟩) hP hK hD hS 1 1 rfl rfl rfl [1, 2, 3, 4, 5, 6, 7, 8, 9, 10, 11, 12, 13, 14, 15, 16] rfl (by decide) (fun _ => rfl) (fun _ => wObj x f q kq vq h g ik ++ (wTab cI q K (jc 0) ++ (wTab cI kq K (jc 1) ++ (wTab cI vq V (jc 2) ++ (wSh cI h SB SS SN ++ (wTp cB g tn TB jc ++ (wA cI f 7 F))))))) (fun _ => rfl) rfl hl.1 rfl (Nat.le_of_ble_eq_true rfl) dX4_undo_22 ⟨Nat.le_of_ble_eq_true rfl, Nat.le_of_ble_eq_true rfl⟩ (fun _ H locs _ hP hD hS => ?_)
    refine W.eq (g2 := F0 m 25 ls []) rfl ?_
    refine lv_aload_n hx hb dX4_undo_25 rfl (lv_at hl 0 rfl) ?_
    refine va_get (D := D) (ci := 3) (v := .ref (q 0)) (C := RX4) (T := TX4) (N := 7) hx hb hts (iT_X4_undo_X4) hown hK hP 0 rfl rfl 0 (by decide) (hts (.fieldLink RX4 10 "WordSupper" "table" "LWordSupper$Table;") (by decide +kernel)) (fun _ h9 => h9) rfl dX4_undo_26 ?_
    refine va_get (D := D) (ci := 1) (v := .int (iI (K 1))) (C := RX2) (T := TX2) (N := 12) hx hb hts (iT_X4_undo_X2) hown hK hP 1 rfl rfl 0 (by decide) (hts (.fieldLink RX4 110 "WordSupper$Table" "day" "I") (by decide +kernel)) (fun _ h9 => h9) rfl dX4_undo_29 ?_
    exact kend ((K 1, K, K, ik, SB, SS, SN, tn, TB, F), V, jc) hP hS rfl (if_neg (by omega)).symm dX4_undo_32
  · refine lv_aload_n hx hb dX4_undo_7 rfl (lv_at hl 0 rfl) ?_
    refine x_ldc hx hb (-1000004) rfl hown (hts (.constant RX4 151 (-1000004)) (by decide +kernel)) dX4_undo_8 ?_
    refine x_callV (As := [.int (iI (-1000004))]) (rest := []) ⟨hx, hb, hml, hown, hts⟩ (kX4_finding x f q kq vq h g ik F (-1000004) 3 (by omega) (by omega)) (cwV 1 hts gX4_undo_X4_finding rfl rfl rfl ykVX4_finding ⟨Nat.le_of_ble_eq_true rfl, Nat.le_of_ble_eq_true rfl⟩) hP hK hD hS 0 3 rfl rfl rfl [0, 31] rfl (by decide) (fun _ => rfl) (fun _ => wObj x f q kq vq h g ik ++ (wTab cI q T (jc 0) ++ (wTab cI kq K (jc 1) ++ (wTab cI vq V (jc 2) ++ (wSh cI h SB SS SN ++ (wTp cB g tn TB jc ++ (wA cI f 7 (bmp 3 F)))))))) (fun _ => rfl) rfl hl.1 rfl (Nat.le_of_ble_eq_true rfl) dX4_undo_10 ⟨Nat.le_of_ble_eq_true rfl, Nat.le_of_ble_eq_true rfl⟩ (fun _ H locs _ hP hD hS => ?_)
    refine W.eq (g2 := F0 m 13 ls [.int (iI (-1000004))]) rfl ?_
    exact kend (((-1000004), T, K, ik, SB, SS, SN, tn, TB, (bmp 3 F)), V, jc) hP hS rfl (if_pos (by omega)).symm dX4_undo_13
theorem ykSX4_tear : yX4_tear.cls ≠ "java/lang/invoke/MethodHandle" ∧ yX4_tear.cls ≠ "java/lang/invoke/VarHandle" ∧ (parseMethodDescriptor yX4_tear.desc).map (fun d => d.parameters.length) = some 0 := by decide +kernel
theorem ykVX4_tear : yX4_tear.cls = RX4 ∧ yX4_tear.cls ≠ "java/lang/invoke/MethodHandle" ∧ yX4_tear.cls ≠ "java/lang/invoke/VarHandle" ∧ (parseMethodDescriptor yX4_tear.desc).map (fun d => d.parameters.length) = some 0 := ⟨rfl, ykSX4_tear⟩
set_option maxRecDepth 20000 in
theorem iT_X4_tear_X4 : ∀ w ∈ u_ws RX4 TX4 7, w ∈ wsX4_tear := by decide +kernel
set_option maxHeartbeats 4000000 in
set_option maxRecDepth 100000 in
theorem kX4_tear {l : Launch} {D : va_G} {cI cB : ClassId} (x f : Nat) (q kq vq h g : Nat → Nat) (T K : Tb) (ik : Int) (SB SS SN : Nat → Int) (tn : Int) (TB F : Nat → Int) (V : Tb) (jc : Nat → Int) (B : Int) (hG : GI B T K ik SB SS SN tn TB F) (hB : B ≤ 40000)  : Ct l yX4_tear wsX4_tear 0 0 D [(cI, .int), (cB, .byte)] [.ref x] (wC cI cB x f q kq vq h g (T, K, ik, SB, SS, SN, tn, TB, F) V jc) (S := (Int × Gs) × Tb × (Nat → Int)) (fun u => some (.int (iI u.1.1))) (fun u => u.1 = m_tear T K ik SB SS SN tn TB F) (fun u => wC cI cB x f q kq vq h g u.1.2 u.2.1 u.2.2) := by
  refine CtI.of (cc := cX4_tear) (maxL := 2) (by decide +kernel) rfl (Nat.le_of_ble_eq_true rfl) ?_
  intro pg e s m args below meth c Q A hx hb hml hts hown hP hK hD hS ls hl kend
  have hown : s.vm.findClass RX4 = some m.cls := hown
  have hl : lv_has ls 2 [(0, .ref x)] := hl
  obtain ⟨hI, hIK, hik, hSB, hSS, hSN, htn, hTB, hF⟩ := id hG
  have hn := Inv_n hI
  have hdy := Inv_d hI
  have hP : va_P D vwCl (wObj x f q kq vq h g ik ++ (wTab cI q T (jc 0) ++ (wTab cI kq K (jc 1) ++ (wTab cI vq V (jc 2) ++ (wSh cI h SB SS SN ++ (wTp cB g tn TB jc ++ (wA cI f 7 F))))))) s.heap := hP
  have hD : va_D A (wObj x f q kq vq h g ik ++ (wTab cI q T (jc 0) ++ (wTab cI kq K (jc 1) ++ (wTab cI vq V (jc 2) ++ (wSh cI h SB SS SN ++ (wTp cB g tn TB jc ++ (wA cI f 7 F))))))) := hD
  refine lv_aload_n hx hb dX4_tear_0 rfl (lv_at hl 0 rfl) ?_
  refine va_get (D := D) (ci := 3) (v := .int (iI ik)) (C := RX4) (T := TX4) (N := 7) hx hb hts (iT_X4_tear_X4) hown hK hP 0 rfl rfl 6 (by decide) (hts (.fieldLink RX4 245 "WordSupper" "isKept" "Z") (by decide +kernel)) (fun _ h9 => h9) rfl dX4_tear_1 ?_
  refine x_if_eq (tgt := 11) hx hb (by omega) dX4_tear_4 (by decide) (fun c_4 => ?_) (fun c_4 => ?_)
  · refine x_iconst hx hb dX4_tear_11 ?_
    refine lv_istore_n (lv' := [(1, .int (iI 0)), (0, .ref x)]) hx hb dX4_tear_12 rfl hl (by decide) rfl (fun ls hl => ?_)
    refine lv_aload_n hx hb dX4_tear_13 rfl (lv_at hl 1 rfl) ?_
    refine x_iconst hx hb dX4_tear_14 ?_
    refine x_putI (D := D) (ty := .boolean) (C := RX4) (T := TX4) (N := 7) hx hb 3 hts (iT_X4_tear_X4) tyX4 tyX4_ok nmX4 hown hK hP hD hS 0 rfl rfl 6 (by decide) (hts (.fieldLink RX4 245 "WordSupper" "isKept" "Z") (by decide +kernel)) (fun _ h9 => h9) rfl (by decide +kernel) rfl rfl (Nat.le_of_ble_eq_true rfl) (wObj x f q kq vq h g 0 ++ (wTab cI q T (jc 0) ++ (wTab cI kq K (jc 1) ++ (wTab cI vq V (jc 2) ++ (wSh cI h SB SS SN ++ (wTp cB g tn TB jc ++ (wA cI f 7 F))))))) (rfl) dX4_tear_15 (fun H locs hP hD hS => ?_)
    refine lv_iload_n hx hb dX4_tear_18 rfl (lv_at hl 0 rfl) ?_
    exact kend ((0, T, K, 0, SB, SS, SN, tn, TB, F), V, jc) hP hS rfl (by unfold m_tear; rw [show ik = 0 by omega]) dX4_tear_19
  · refine x_iconst hx hb dX4_tear_7 ?_
    refine lv_goto (tgt := 12) hx hb dX4_tear_8 (by decide) ?_
    refine lv_istore_n (lv' := [(1, .int (iI 1)), (0, .ref x)]) hx hb dX4_tear_12 rfl hl (by decide) rfl (fun ls hl => ?_)
    refine lv_aload_n hx hb dX4_tear_13 rfl (lv_at hl 1 rfl) ?_
    refine x_iconst hx hb dX4_tear_14 ?_
    refine x_putI (D := D) (ty := .boolean) (C := RX4) (T := TX4) (N := 7) hx hb 3 hts (iT_X4_tear_X4) tyX4 tyX4_ok nmX4 hown hK hP hD hS 0 rfl rfl 6 (by decide) (hts (.fieldLink RX4 245 "WordSupper" "isKept" "Z") (by decide +kernel)) (fun _ h9 => h9) rfl (by decide +kernel) rfl rfl (Nat.le_of_ble_eq_true rfl) (wObj x f q kq vq h g 0 ++ (wTab cI q T (jc 0) ++ (wTab cI kq K (jc 1) ++ (wTab cI vq V (jc 2) ++ (wSh cI h SB SS SN ++ (wTp cB g tn TB jc ++ (wA cI f 7 F))))))) (rfl) dX4_tear_15 (fun H locs hP hD hS => ?_)
    refine lv_iload_n hx hb dX4_tear_18 rfl (lv_at hl 0 rfl) ?_
    exact kend ((1, T, K, 0, SB, SS, SN, tn, TB, F), V, jc) hP hS rfl (by unfold m_tear; rw [show ik = 1 by omega]) dX4_tear_19
theorem ykSX4_count : yX4_count.cls ≠ "java/lang/invoke/MethodHandle" ∧ yX4_count.cls ≠ "java/lang/invoke/VarHandle" ∧ (parseMethodDescriptor yX4_count.desc).map (fun d => d.parameters.length) = some 1 := by decide +kernel
theorem ykVX4_count : yX4_count.cls = RX4 ∧ yX4_count.cls ≠ "java/lang/invoke/MethodHandle" ∧ yX4_count.cls ≠ "java/lang/invoke/VarHandle" ∧ (parseMethodDescriptor yX4_count.desc).map (fun d => d.parameters.length) = some 1 := ⟨rfl, ykSX4_count⟩
set_option maxRecDepth 20000 in
theorem iT_X4_count_X4 : ∀ w ∈ u_ws RX4 TX4 7, w ∈ wsX4_count := by decide +kernel
set_option maxRecDepth 20000 in
theorem iT_X4_count_X2 : ∀ w ∈ u_ws RX2 TX2 12, w ∈ wsX4_count := by decide +kernel
set_option maxRecDepth 20000 in
theorem iT_X4_count_X3 : ∀ w ∈ u_ws RX3 TX3 6, w ∈ wsX4_count := by decide +kernel
set_option maxHeartbeats 4000000 in
set_option maxRecDepth 100000 in
theorem kX4_count {l : Launch} {D : va_G} {cI cB : ClassId} (x f : Nat) (q kq vq h g : Nat → Nat) (T K : Tb) (ik : Int) (SB SS SN : Nat → Int) (tn : Int) (TB F : Nat → Int) (V : Tb) (jc : Nat → Int) (wh : Int) (B : Int) (hG : GI B T K ik SB SS SN tn TB F) (hB : B ≤ 40000) (h_wh : rI wh) : Ct l yX4_count wsX4_count 3 66 D [(cI, .int), (cB, .byte)] [.ref x, .int (iI wh)] (wC cI cB x f q kq vq h g (T, K, ik, SB, SS, SN, tn, TB, F) V jc) (S := (Int × Gs) × Tb × (Nat → Int)) (fun u => some (.int (iI u.1.1))) (fun u => u.1 = m_count wh T K ik SB SS SN tn TB F) (fun u => wC cI cB x f q kq vq h g u.1.2 u.2.1 u.2.2) := by
  refine CtI.of (cc := cX4_count) (maxL := 2) (by decide +kernel) rfl (Nat.le_of_ble_eq_true rfl) ?_
  intro pg e s m args below meth c Q A hx hb hml hts hown hP hK hD hS ls hl kend
  have hown : s.vm.findClass RX4 = some m.cls := hown
  have hl : lv_has ls 2 [(0, .ref x), (1, .int (iI wh))] := hl
  obtain ⟨hI, hIK, hik, hSB, hSS, hSN, htn, hTB, hF⟩ := id hG
  have hn := Inv_n hI
  have hdy := Inv_d hI
  have hP : va_P D vwCl (wObj x f q kq vq h g ik ++ (wTab cI q T (jc 0) ++ (wTab cI kq K (jc 1) ++ (wTab cI vq V (jc 2) ++ (wSh cI h SB SS SN ++ (wTp cB g tn TB jc ++ (wA cI f 7 F))))))) s.heap := hP
  have hD : va_D A (wObj x f q kq vq h g ik ++ (wTab cI q T (jc 0) ++ (wTab cI kq K (jc 1) ++ (wTab cI vq V (jc 2) ++ (wSh cI h SB SS SN ++ (wTp cB g tn TB jc ++ (wA cI f 7 F))))))) := hD
  refine lv_iload_n hx hb dX4_count_0 rfl (lv_at hl 1 rfl) ?_
  rcases x_sw wh 0 7 with c_1 | c_1
  · refine lv_tableOut (tgt := 126) hx hb dX4_count_1 (by rw [iI_to (by omega)]; exact c_1) (by decide) ?_
    refine lv_aload_n hx hb dX4_count_126 rfl (lv_at hl 0 rfl) ?_
    refine x_ldc hx hb (-1000001) rfl hown (hts (.constant RX4 44 (-1000001)) (by decide +kernel)) dX4_count_127 ?_
    refine x_callV (As := [.int (iI (-1000001))]) (rest := []) ⟨hx, hb, hml, hown, hts⟩ (kX4_finding x f q kq vq h g ik F (-1000001) 0 (by omega) (by omega)) (cwV 1 hts gX4_count_X4_finding rfl rfl rfl ykVX4_finding ⟨Nat.le_of_ble_eq_true rfl, Nat.le_of_ble_eq_true rfl⟩) hP hK hD hS 0 3 rfl rfl rfl [0, 31] rfl (by decide) (fun _ => rfl) (fun _ => wObj x f q kq vq h g ik ++ (wTab cI q T (jc 0) ++ (wTab cI kq K (jc 1) ++ (wTab cI vq V (jc 2) ++ (wSh cI h SB SS SN ++ (wTp cB g tn TB jc ++ (wA cI f 7 (bmp 0 F)))))))) (fun _ => rfl) rfl hl.1 rfl (Nat.le_of_ble_eq_true rfl) dX4_count_129 ⟨Nat.le_of_ble_eq_true rfl, Nat.le_of_ble_eq_true rfl⟩ (fun _ H locs _ hP hD hS => ?_)
    refine W.eq (g2 := F0 m 132 ls [.int (iI (-1000001))]) rfl ?_
    exact kend (((-1000001), T, K, ik, SB, SS, SN, tn, TB, (bmp 0 F)), V, jc) hP hS rfl (if_neg (by omega)).symm dX4_count_132
  · obtain ⟨c_1a, c_1b⟩ := c_1
    by_cases e_1 : wh = 0
    · refine lv_tableIn (off := 47) (tgt := 48) hx hb dX4_count_1 (by rw [iI_to (by omega)]; omega) (by rw [iI_to (by omega)]; omega) (by rw [iI_to (by omega), e_1]; rfl) (by decide) ?_
      refine lv_aload_n hx hb dX4_count_48 rfl (lv_at hl 0 rfl) ?_
      refine va_get (D := D) (ci := 3) (v := .ref (q 0)) (C := RX4) (T := TX4) (N := 7) hx hb hts (iT_X4_count_X4) hown hK hP 0 rfl rfl 0 (by decide) (hts (.fieldLink RX4 10 "WordSupper" "table" "LWordSupper$Table;") (by decide +kernel)) (fun _ h9 => h9) rfl dX4_count_49 ?_
      refine va_get (D := D) (ci := 1) (v := .int (iI (T 1))) (C := RX2) (T := TX2) (N := 12) hx hb hts (iT_X4_count_X2) hown hK hP 1 rfl rfl 0 (by decide) (hts (.fieldLink RX4 110 "WordSupper$Table" "day" "I") (by decide +kernel)) (fun _ h9 => h9) rfl dX4_count_52 ?_
      exact kend ((T 1, T, K, ik, SB, SS, SN, tn, TB, F), V, jc) hP hS rfl (by unfold m_count coF; rw [if_pos (by omega)]; subst e_1; rfl) dX4_count_55
    by_cases e_1 : wh = 1
    · refine lv_tableIn (off := 55) (tgt := 56) hx hb dX4_count_1 (by rw [iI_to (by omega)]; omega) (by rw [iI_to (by omega)]; omega) (by rw [iI_to (by omega), e_1]; rfl) (by decide) ?_
      refine lv_aload_n hx hb dX4_count_56 rfl (lv_at hl 0 rfl) ?_
      refine va_get (D := D) (ci := 3) (v := .ref (q 0)) (C := RX4) (T := TX4) (N := 7) hx hb hts (iT_X4_count_X4) hown hK hP 0 rfl rfl 0 (by decide) (hts (.fieldLink RX4 10 "WordSupper" "table" "LWordSupper$Table;") (by decide +kernel)) (fun _ h9 => h9) rfl dX4_count_57 ?_
      refine va_get (D := D) (ci := 1) (v := .int (iI (T 0))) (C := RX2) (T := TX2) (N := 12) hx hb hts (iT_X4_count_X2) hown hK hP 1 rfl rfl 3 (by decide) (hts (.fieldLink RX4 152 "WordSupper$Table" "seats" "I") (by decide +kernel)) (fun _ h9 => h9) rfl dX4_count_60 ?_
      exact kend ((T 0, T, K, ik, SB, SS, SN, tn, TB, F), V, jc) hP hS rfl (by unfold m_count coF; rw [if_pos (by omega)]; subst e_1; rfl) dX4_count_63
    by_cases e_1 : wh = 2
    · refine lv_tableIn (off := 63) (tgt := 64) hx hb dX4_count_1 (by rw [iI_to (by omega)]; omega) (by rw [iI_to (by omega)]; omega) (by rw [iI_to (by omega), e_1]; rfl) (by decide) ?_
      refine lv_aload_n hx hb dX4_count_64 rfl (lv_at hl 0 rfl) ?_
      refine va_get (D := D) (ci := 3) (v := .ref (q 0)) (C := RX4) (T := TX4) (N := 7) hx hb hts (iT_X4_count_X4) hown hK hP 0 rfl rfl 0 (by decide) (hts (.fieldLink RX4 10 "WordSupper" "table" "LWordSupper$Table;") (by decide +kernel)) (fun _ h9 => h9) rfl dX4_count_65 ?_
      refine x_callV (As := []) (rest := []) ⟨hx, hb, hml, hown, hts⟩ (kX2_allLeft q T (jc 0) (by omega)) (cwV 0 hts gX4_count_X2_allLeft rfl rfl rfl ykVX2_allLeft ⟨Nat.le_of_ble_eq_true rfl, Nat.le_of_ble_eq_true rfl⟩) hP hK hD hS 1 1 rfl rfl rfl [1, 2, 3, 4, 5, 6, 7, 8] rfl (by decide) (fun _ => rfl) (fun _ => wObj x f q kq vq h g ik ++ (wTab cI q T (jc 0) ++ (wTab cI kq K (jc 1) ++ (wTab cI vq V (jc 2) ++ (wSh cI h SB SS SN ++ (wTp cB g tn TB jc ++ (wA cI f 7 F))))))) (fun _ => rfl) rfl hl.1 rfl (Nat.le_of_ble_eq_true rfl) dX4_count_68 ⟨Nat.le_of_ble_eq_true rfl, Nat.le_of_ble_eq_true rfl⟩ (fun _ H locs _ hP hD hS => ?_)
      refine W.eq (g2 := F0 m 71 ls [.int (iI (alF T))]) rfl ?_
      exact kend ((alF T, T, K, ik, SB, SS, SN, tn, TB, F), V, jc) hP hS rfl (by unfold m_count coF; rw [if_pos (by omega)]; subst e_1; rfl) dX4_count_71
    by_cases e_1 : wh = 3
    · refine lv_tableIn (off := 71) (tgt := 72) hx hb dX4_count_1 (by rw [iI_to (by omega)]; omega) (by rw [iI_to (by omega)]; omega) (by rw [iI_to (by omega), e_1]; rfl) (by decide) ?_
      refine lv_aload_n hx hb dX4_count_72 rfl (lv_at hl 0 rfl) ?_
      refine va_get (D := D) (ci := 3) (v := .ref (q 0)) (C := RX4) (T := TX4) (N := 7) hx hb hts (iT_X4_count_X4) hown hK hP 0 rfl rfl 0 (by decide) (hts (.fieldLink RX4 10 "WordSupper" "table" "LWordSupper$Table;") (by decide +kernel)) (fun _ h9 => h9) rfl dX4_count_73 ?_
      refine lv_aload_n hx hb dX4_count_76 rfl (lv_at hl 0 rfl) ?_
      refine va_get (D := D) (ci := 3) (v := .ref (q 0)) (C := RX4) (T := TX4) (N := 7) hx hb hts (iT_X4_count_X4) hown hK hP 0 rfl rfl 0 (by decide) (hts (.fieldLink RX4 10 "WordSupper" "table" "LWordSupper$Table;") (by decide +kernel)) (fun _ h9 => h9) rfl dX4_count_77 ?_
      refine va_get (D := D) (ci := 1) (v := .ref (q 5)) (C := RX2) (T := TX2) (N := 12) hx hb hts (iT_X4_count_X2) hown hK hP 1 rfl rfl 9 (by decide) (hts (.fieldLink RX4 94 "WordSupper$Table" "ate" "[I") (by decide +kernel)) (fun _ h9 => h9) rfl dX4_count_80 ?_
      refine x_callV (As := [.ref (q 5)]) (rest := []) ⟨hx, hb, hml, hown, hts⟩ (kX2_allOf_3 q T (jc 0) (by omega)) (cwV 1 hts gX4_count_X2_allOf rfl rfl rfl ykVX2_allOf ⟨Nat.le_of_ble_eq_true rfl, Nat.le_of_ble_eq_true rfl⟩) hP hK hD hS 1 1 rfl rfl rfl [1, 2, 3, 4, 5, 6, 7, 8] rfl (by decide) (fun _ => rfl) (fun _ => wObj x f q kq vq h g ik ++ (wTab cI q T (jc 0) ++ (wTab cI kq K (jc 1) ++ (wTab cI vq V (jc 2) ++ (wSh cI h SB SS SN ++ (wTp cB g tn TB jc ++ (wA cI f 7 F))))))) (fun _ => rfl) rfl hl.1 rfl (Nat.le_of_ble_eq_true rfl) dX4_count_83 ⟨Nat.le_of_ble_eq_true rfl, Nat.le_of_ble_eq_true rfl⟩ (fun _ H locs _ hP hD hS => ?_)
      refine W.eq (g2 := F0 m 86 ls [.int (iI (smF T 3))]) rfl ?_
      exact kend ((smF T 3, T, K, ik, SB, SS, SN, tn, TB, F), V, jc) hP hS rfl (by unfold m_count coF; rw [if_pos (by omega)]; subst e_1; rfl) dX4_count_86
    by_cases e_1 : wh = 4
    · refine lv_tableIn (off := 86) (tgt := 87) hx hb dX4_count_1 (by rw [iI_to (by omega)]; omega) (by rw [iI_to (by omega)]; omega) (by rw [iI_to (by omega), e_1]; rfl) (by decide) ?_
      refine lv_aload_n hx hb dX4_count_87 rfl (lv_at hl 0 rfl) ?_
      refine va_get (D := D) (ci := 3) (v := .ref (q 0)) (C := RX4) (T := TX4) (N := 7) hx hb hts (iT_X4_count_X4) hown hK hP 0 rfl rfl 0 (by decide) (hts (.fieldLink RX4 10 "WordSupper" "table" "LWordSupper$Table;") (by decide +kernel)) (fun _ h9 => h9) rfl dX4_count_88 ?_
      refine lv_aload_n hx hb dX4_count_91 rfl (lv_at hl 0 rfl) ?_
      refine va_get (D := D) (ci := 3) (v := .ref (q 0)) (C := RX4) (T := TX4) (N := 7) hx hb hts (iT_X4_count_X4) hown hK hP 0 rfl rfl 0 (by decide) (hts (.fieldLink RX4 10 "WordSupper" "table" "LWordSupper$Table;") (by decide +kernel)) (fun _ h9 => h9) rfl dX4_count_92 ?_
      refine va_get (D := D) (ci := 1) (v := .ref (q 4)) (C := RX2) (T := TX2) (N := 12) hx hb hts (iT_X4_count_X2) hown hK hP 1 rfl rfl 8 (by decide) (hts (.fieldLink RX4 91 "WordSupper$Table" "fat" "[I") (by decide +kernel)) (fun _ h9 => h9) rfl dX4_count_95 ?_
      refine x_callV (As := [.ref (q 4)]) (rest := []) ⟨hx, hb, hml, hown, hts⟩ (kX2_allOf_2 q T (jc 0) (by omega)) (cwV 1 hts gX4_count_X2_allOf rfl rfl rfl ykVX2_allOf ⟨Nat.le_of_ble_eq_true rfl, Nat.le_of_ble_eq_true rfl⟩) hP hK hD hS 1 1 rfl rfl rfl [1, 2, 3, 4, 5, 6, 7, 8] rfl (by decide) (fun _ => rfl) (fun _ => wObj x f q kq vq h g ik ++ (wTab cI q T (jc 0) ++ (wTab cI kq K (jc 1) ++ (wTab cI vq V (jc 2) ++ (wSh cI h SB SS SN ++ (wTp cB g tn TB jc ++ (wA cI f 7 F))))))) (fun _ => rfl) rfl hl.1 rfl (Nat.le_of_ble_eq_true rfl) dX4_count_98 ⟨Nat.le_of_ble_eq_true rfl, Nat.le_of_ble_eq_true rfl⟩ (fun _ H locs _ hP hD hS => ?_)
      refine W.eq (g2 := F0 m 101 ls [.int (iI (smF T 2))]) rfl ?_
      exact kend ((smF T 2, T, K, ik, SB, SS, SN, tn, TB, F), V, jc) hP hS rfl (by unfold m_count coF; rw [if_pos (by omega)]; subst e_1; rfl) dX4_count_101
    by_cases e_1 : wh = 5
    · refine lv_tableIn (off := 101) (tgt := 102) hx hb dX4_count_1 (by rw [iI_to (by omega)]; omega) (by rw [iI_to (by omega)]; omega) (by rw [iI_to (by omega), e_1]; rfl) (by decide) ?_
      refine lv_aload_n hx hb dX4_count_102 rfl (lv_at hl 0 rfl) ?_
      refine va_get (D := D) (ci := 3) (v := .ref (g 0)) (C := RX4) (T := TX4) (N := 7) hx hb hts (iT_X4_count_X4) hown hK hP 0 rfl rfl 4 (by decide) (hts (.fieldLink RX4 32 "WordSupper" "tape" "LWordSupper$Tape;") (by decide +kernel)) (fun _ h9 => h9) rfl dX4_count_103 ?_
      refine va_get (D := D) (ci := 2) (v := .int (iI tn)) (C := RX3) (T := TX3) (N := 6) hx hb hts (iT_X4_count_X3) hown hK hP 29 rfl rfl 0 (by decide) (hts (.fieldLink RX4 199 "WordSupper$Tape" "size" "I") (by decide +kernel)) (fun _ h9 => h9) rfl dX4_count_106 ?_
      exact kend ((tn, T, K, ik, SB, SS, SN, tn, TB, F), V, jc) hP hS rfl (by unfold m_count coF; rw [if_pos (by omega)]; subst e_1; rfl) dX4_count_109
    by_cases e_1 : wh = 6
    · refine lv_tableIn (off := 109) (tgt := 110) hx hb dX4_count_1 (by rw [iI_to (by omega)]; omega) (by rw [iI_to (by omega)]; omega) (by rw [iI_to (by omega), e_1]; rfl) (by decide) ?_
      refine lv_aload_n hx hb dX4_count_110 rfl (lv_at hl 0 rfl) ?_
      refine va_get (D := D) (ci := 3) (v := .ref (q 0)) (C := RX4) (T := TX4) (N := 7) hx hb hts (iT_X4_count_X4) hown hK hP 0 rfl rfl 0 (by decide) (hts (.fieldLink RX4 10 "WordSupper" "table" "LWordSupper$Table;") (by decide +kernel)) (fun _ h9 => h9) rfl dX4_count_111 ?_
      refine va_get (D := D) (ci := 1) (v := .int (iI (T 2))) (C := RX2) (T := TX2) (N := 12) hx hb hts (iT_X4_count_X2) hown hK hP 1 rfl rfl 2 (by decide) (hts (.fieldLink RX4 196 "WordSupper$Table" "z" "I") (by decide +kernel)) (fun _ h9 => h9) rfl dX4_count_114 ?_
      exact kend ((T 2, T, K, ik, SB, SS, SN, tn, TB, F), V, jc) hP hS rfl (by unfold m_count coF; rw [if_pos (by omega)]; subst e_1; rfl) dX4_count_117
    have e_1 : wh = 7 := by omega
    refine lv_tableIn (off := 117) (tgt := 118) hx hb dX4_count_1 (by rw [iI_to (by omega)]; omega) (by rw [iI_to (by omega)]; omega) (by rw [iI_to (by omega), e_1]; rfl) (by decide) ?_
    refine lv_aload_n hx hb dX4_count_118 rfl (lv_at hl 0 rfl) ?_
    refine va_get (D := D) (ci := 3) (v := .ref (q 0)) (C := RX4) (T := TX4) (N := 7) hx hb hts (iT_X4_count_X4) hown hK hP 0 rfl rfl 0 (by decide) (hts (.fieldLink RX4 10 "WordSupper" "table" "LWordSupper$Table;") (by decide +kernel)) (fun _ h9 => h9) rfl dX4_count_119 ?_
    refine x_callV (As := []) (rest := []) ⟨hx, hb, hml, hown, hts⟩ (kX2_heldSpots q T (jc 0) (fun k9 hk9 => by have := Inv_s hI hk9; omega)) (cwV 0 hts gX4_count_X2_heldSpots rfl rfl rfl ykVX2_heldSpots ⟨Nat.le_of_ble_eq_true rfl, Nat.le_of_ble_eq_true rfl⟩) hP hK hD hS 1 1 rfl rfl rfl [1, 2, 3, 4, 5, 6, 7, 8] rfl (by decide) (fun _ => rfl) (fun _ => wObj x f q kq vq h g ik ++ (wTab cI q T (jc 0) ++ (wTab cI kq K (jc 1) ++ (wTab cI vq V (jc 2) ++ (wSh cI h SB SS SN ++ (wTp cB g tn TB jc ++ (wA cI f 7 F))))))) (fun _ => rfl) rfl hl.1 rfl (Nat.le_of_ble_eq_true rfl) dX4_count_122 ⟨Nat.le_of_ble_eq_true rfl, Nat.le_of_ble_eq_true rfl⟩ (fun _ H locs _ hP hD hS => ?_)
    refine W.eq (g2 := F0 m 125 ls [.int (iI (hsF T))]) rfl ?_
    exact kend ((hsF T, T, K, ik, SB, SS, SN, tn, TB, F), V, jc) hP hS rfl (by unfold m_count coF; rw [if_pos (by omega)]; subst e_1; rfl) dX4_count_125
theorem ykSX4_status : yX4_status.cls ≠ "java/lang/invoke/MethodHandle" ∧ yX4_status.cls ≠ "java/lang/invoke/VarHandle" ∧ (parseMethodDescriptor yX4_status.desc).map (fun d => d.parameters.length) = some 1 := by decide +kernel
theorem ykVX4_status : yX4_status.cls = RX4 ∧ yX4_status.cls ≠ "java/lang/invoke/MethodHandle" ∧ yX4_status.cls ≠ "java/lang/invoke/VarHandle" ∧ (parseMethodDescriptor yX4_status.desc).map (fun d => d.parameters.length) = some 1 := ⟨rfl, ykSX4_status⟩
set_option maxRecDepth 20000 in
theorem iT_X4_status_X4 : ∀ w ∈ u_ws RX4 TX4 7, w ∈ wsX4_status := by decide +kernel
set_option maxHeartbeats 4000000 in
set_option maxRecDepth 100000 in
theorem kX4_status {l : Launch} {D : va_G} {cI cB : ClassId} (x f : Nat) (q kq vq h g : Nat → Nat) (T K : Tb) (ik : Int) (SB SS SN : Nat → Int) (tn : Int) (TB F : Nat → Int) (V : Tb) (jc : Nat → Int) (wh : Int) (B : Int) (hG : GI B T K ik SB SS SN tn TB F) (hB : B ≤ 40000) (h_wh : rI wh) : Ct l yX4_status wsX4_status 2 44 D [(cI, .int), (cB, .byte)] [.ref x, .int (iI wh)] (wC cI cB x f q kq vq h g (T, K, ik, SB, SS, SN, tn, TB, F) V jc) (S := (Int × Gs) × Tb × (Nat → Int)) (fun u => some (.int (iI u.1.1))) (fun u => u.1 = m_status wh T K ik SB SS SN tn TB F) (fun u => wC cI cB x f q kq vq h g u.1.2 u.2.1 u.2.2) := by
  refine CtI.of (cc := cX4_status) (maxL := 4) (by decide +kernel) rfl (Nat.le_of_ble_eq_true rfl) ?_
  intro pg e s m args below meth c Q A hx hb hml hts hown hP hK hD hS ls hl kend
  have hown : s.vm.findClass RX4 = some m.cls := hown
  have hl : lv_has ls 4 [(0, .ref x), (1, .int (iI wh))] := hl
  obtain ⟨hI, hIK, hik, hSB, hSS, hSN, htn, hTB, hF⟩ := id hG
  have hn := Inv_n hI
  have hdy := Inv_d hI
  have hP : va_P D vwCl (wObj x f q kq vq h g ik ++ (wTab cI q T (jc 0) ++ (wTab cI kq K (jc 1) ++ (wTab cI vq V (jc 2) ++ (wSh cI h SB SS SN ++ (wTp cB g tn TB jc ++ (wA cI f 7 F))))))) s.heap := hP
  have hD : va_D A (wObj x f q kq vq h g ik ++ (wTab cI q T (jc 0) ++ (wTab cI kq K (jc 1) ++ (wTab cI vq V (jc 2) ++ (wSh cI h SB SS SN ++ (wTp cB g tn TB jc ++ (wA cI f 7 F))))))) := hD
  refine lv_iload_n hx hb dX4_status_0 rfl (lv_at hl 1 rfl) ?_
  refine x_iconst hx hb dX4_status_1 ?_
  refine x_bipush hx hb dX4_status_2 (by decide) ?_
  refine x_callS (As := [.int (iI wh), .int (iI (-1)), .int (iI 6)]) (rest := []) ⟨hx, hb, hml, hown, hts⟩ (kX4_isWithin wh (-1) 6 (by omega) (by decide) (by decide)) (va_cwS 3 hts gX4_status_X4_isWithin rfl rfl rfl ykSX4_isWithin ⟨Nat.le_of_ble_eq_true rfl, Nat.le_of_ble_eq_true rfl⟩) hP hK hD hS [] rfl (by decide) (fun _ => rfl) (fun _ => wObj x f q kq vq h g ik ++ (wTab cI q T (jc 0) ++ (wTab cI kq K (jc 1) ++ (wTab cI vq V (jc 2) ++ (wSh cI h SB SS SN ++ (wTp cB g tn TB jc ++ (wA cI f 7 F))))))) (fun _ => rfl) rfl hl.1 rfl (Nat.le_of_ble_eq_true rfl) dX4_status_4 ⟨Nat.le_of_ble_eq_true rfl, Nat.le_of_ble_eq_true rfl⟩ (fun _ H locs _ hP hD hS => ?_)
  refine W.eq (g2 := F0 m 7 ls [.int (iI (b2 (decide ((-1) ≤ wh ∧ wh ≤ 6))))]) rfl ?_
  refine x_ifb_ne (tgt := 17) hx hb dX4_status_7 (by decide) (fun c_7 => ?_) (fun c_7 => ?_)
  · refine lv_iload_n hx hb dX4_status_17 rfl (lv_at hl 1 rfl) ?_
    refine x_if_lt (tgt := 28) hx hb (by omega) dX4_status_18 (by decide) (fun c_18 => ?_) (fun c_18 => ?_)
    · refine x_iconst hx hb dX4_status_28 ?_
      refine lv_istore_n (lv' := [(2, .int (iI 0)), (0, .ref x), (1, .int (iI wh))]) hx hb dX4_status_29 rfl hl (by decide) rfl (fun ls hl => ?_)
      refine x_iconst hx hb dX4_status_30 ?_
      refine lv_istore_n (lv' := [(3, .int (iI 0)), (2, .int (iI 0)), (0, .ref x), (1, .int (iI wh))]) hx hb dX4_status_31 rfl hl (by decide) rfl (fun ls hl => ?_)
      have L32 : ∀ (k t : Nat) (sv : Int) (H : Heap) (locs : List Loc) (ls : Array Slot), t + k = 7 → (run (fun (i : Nat) (z : Int) => z + F i) k t sv = fR F 0) → va_P D vwCl (wObj x f q kq vq h g ik ++ (wTab cI q T (jc 0) ++ (wTab cI kq K (jc 1) ++ (wTab cI vq V (jc 2) ++ (wSh cI h SB SS SN ++ (wTp cB g tn TB jc ++ (wA cI f 7 F))))))) H → va_D A (wObj x f q kq vq h g ik ++ (wTab cI q T (jc 0) ++ (wTab cI kq K (jc 1) ++ (wTab cI vq V (jc 2) ++ (wSh cI h SB SS SN ++ (wTp cB g tn TB jc ++ (wA cI f 7 F))))))) → va_S A s.heap H locs → lv_has ls 4 [(0, .ref x), (1, .int (iI wh)), (2, .int (iI sv)), (3, .int (iI ((t : Nat) : Int)))] → W pg l e { frames := 2, cells := 0, slots := 0, locals := 44 } s m args below meth c H locs 0 0 Q (F0 m 32 ls []) := by
        intro k
        induction k with
        | zero =>
          intro t sv H locs ls hkt hr hP hD hS hl
          refine lv_iload_n hx hb dX4_status_32 rfl (lv_at hl 3 rfl) ?_
          refine x_bipush hx hb dX4_status_33 (by decide) ?_
          refine x_icmp_ge (tgt := 53) hx hb (by omega) (by decide) dX4_status_35 (by decide) (fun c_35 => ?_) (fun c_35 => ?_)
          · refine lv_iload_n hx hb dX4_status_53 rfl (lv_at hl 2 rfl) ?_
            exact kend ((sv, T, K, ik, SB, SS, SN, tn, TB, F), V, jc) hP hS rfl (by obtain rfl : wh = -1 := (by omega); unfold m_status; rw [if_pos (by omega)]; exact congrArg (fun z => (z, T, K, ik, SB, SS, SN, tn, TB, F)) hr) dX4_status_54
          · exfalso; omega
        | succ k ih =>
          intro t sv H locs ls hkt hr hP hD hS hl
          refine lv_iload_n hx hb dX4_status_32 rfl (lv_at hl 3 rfl) ?_
          refine x_bipush hx hb dX4_status_33 (by decide) ?_
          refine x_icmp_ge (tgt := 53) hx hb (by omega) (by decide) dX4_status_35 (by decide) (fun c_35 => ?_) (fun c_35 => ?_)
          · exfalso; omega
          · refine lv_iload_n hx hb dX4_status_38 rfl (lv_at hl 2 rfl) ?_
            refine lv_aload_n hx hb dX4_status_39 rfl (lv_at hl 0 rfl) ?_
            refine va_get (D := D) (ci := 3) (v := .ref f) (C := RX4) (T := TX4) (N := 7) hx hb hts (iT_X4_status_X4) hown hK hP 0 rfl rfl 5 (by decide) (hts (.fieldLink RX4 36 "WordSupper" "findings" "[I") (by decide +kernel)) (fun _ h9 => h9) rfl dX4_status_40 ?_
            refine lv_iload_n hx hb dX4_status_43 rfl (lv_at hl 3 rfl) ?_
            refine x_iald hx hb hK hP 31 0 rfl rfl t rfl (by omega) (by decide) (F t) (gd_at _ (by omega)) dX4_status_44 ?_
            refine x_iadd hx hb dX4_status_45 ?_
            refine lv_istore_n (lv' := [(2, .int (iI (sv + (F t)))), (0, .ref x), (1, .int (iI wh)), (3, .int (iI ((t : Nat) : Int)))]) hx hb dX4_status_46 rfl hl (by decide) rfl (fun ls hl => ?_)
            refine x_iinc hx hb 3 ((t + 1 : Nat) : Int) (by omega) [(3, .int (iI ((t + 1 : Nat) : Int))), (2, .int (iI (sv + (F t)))), (0, .ref x), (1, .int (iI wh))] dX4_status_47 hl rfl (by decide) rfl (fun ls hl => ?_)
            refine lv_goto (tgt := 32) hx hb dX4_status_50 (by decide) ?_
            exact ih (t + 1) (sv + (F t)) _ _ _ (by omega) hr hP hD hS (lv_sub hl [2, 3, 1, 0] rfl)
      exact L32 7 0 0 _ _ _ (by omega) (by show 0 + F 0 + F 1 + F 2 + F 3 + F 4 + F 5 + F 6 = _; rw [Int.zero_add]; rfl) hP hD hS (lv_sub hl [2, 3, 1, 0] rfl)
    · obtain ⟨w0, rfl⟩ : ∃ w0 : Nat, wh = (w0 : Int) := ⟨wh.toNat, by omega⟩
      refine lv_aload_n hx hb dX4_status_21 rfl (lv_at hl 0 rfl) ?_
      refine va_get (D := D) (ci := 3) (v := .ref f) (C := RX4) (T := TX4) (N := 7) hx hb hts (iT_X4_status_X4) hown hK hP 0 rfl rfl 5 (by decide) (hts (.fieldLink RX4 36 "WordSupper" "findings" "[I") (by decide +kernel)) (fun _ h9 => h9) rfl dX4_status_22 ?_
      refine lv_iload_n hx hb dX4_status_25 rfl (lv_at hl 1 rfl) ?_
      refine x_iald hx hb hK hP 31 0 rfl rfl w0 rfl (by omega) (by decide) (F w0) (gd_at _ (by omega)) dX4_status_26 ?_
      exact kend ((F w0, T, K, ik, SB, SS, SN, tn, TB, F), V, jc) hP hS rfl (by unfold m_status; rw [if_pos (by omega), show (((w0 : Nat) : Int) + 1).toNat = w0 + 1 by omega]; rfl) dX4_status_27
  · refine lv_aload_n hx hb dX4_status_10 rfl (lv_at hl 0 rfl) ?_
    refine x_ldc hx hb (-1000001) rfl hown (hts (.constant RX4 44 (-1000001)) (by decide +kernel)) dX4_status_11 ?_
    refine x_callV (As := [.int (iI (-1000001))]) (rest := []) ⟨hx, hb, hml, hown, hts⟩ (kX4_finding x f q kq vq h g ik F (-1000001) 0 (by omega) (by omega)) (cwV 1 hts gX4_status_X4_finding rfl rfl rfl ykVX4_finding ⟨Nat.le_of_ble_eq_true rfl, Nat.le_of_ble_eq_true rfl⟩) hP hK hD hS 0 3 rfl rfl rfl [0, 31] rfl (by decide) (fun _ => rfl) (fun _ => wObj x f q kq vq h g ik ++ (wTab cI q T (jc 0) ++ (wTab cI kq K (jc 1) ++ (wTab cI vq V (jc 2) ++ (wSh cI h SB SS SN ++ (wTp cB g tn TB jc ++ (wA cI f 7 (bmp 0 F)))))))) (fun _ => rfl) rfl hl.1 rfl (Nat.le_of_ble_eq_true rfl) dX4_status_13 ⟨Nat.le_of_ble_eq_true rfl, Nat.le_of_ble_eq_true rfl⟩ (fun _ H locs _ hP hD hS => ?_)
    refine W.eq (g2 := F0 m 16 ls [.int (iI (-1000001))]) rfl ?_
    exact kend (((-1000001), T, K, ik, SB, SS, SN, tn, TB, (bmp 0 F)), V, jc) hP hS rfl (if_neg (by omega)).symm dX4_status_16
