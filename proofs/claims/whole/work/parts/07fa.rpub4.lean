theorem ykSX5_hold : yX5_hold.cls ≠ "java/lang/invoke/MethodHandle" ∧ yX5_hold.cls ≠ "java/lang/invoke/VarHandle" ∧ (parseMethodDescriptor yX5_hold.desc).map (fun d => d.parameters.length) = some 2 := by decide +kernel
theorem ykVX5_hold : yX5_hold.cls = RX5 ∧ yX5_hold.cls ≠ "java/lang/invoke/MethodHandle" ∧ yX5_hold.cls ≠ "java/lang/invoke/VarHandle" ∧ (parseMethodDescriptor yX5_hold.desc).map (fun d => d.parameters.length) = some 2 := ⟨rfl, ykSX5_hold⟩
set_option maxRecDepth 20000 in
theorem iT_X5_hold_X5 : ∀ w ∈ u_ws RX5 TX5 18, w ∈ wsX5_hold := by decide +kernel
set_option maxHeartbeats 4000000 in
set_option maxRecDepth 100000 in
theorem kX5_hold {l : Launch} {D : va_G} {cI cB : ClassId} (r : Nat → Nat) (T K : Tb) (ik : Int) (SB SS SN : Nat → Int) (tn : Int) (TB F : Nat → Int) (X Y : Tb) (j : Nat → Int) (k sp : Int) (B : Int) (hG : GI B T K ik SB SS SN tn TB F) (hB : B ≤ 40000) (h_k : rI k) (h_sp : rI sp) : Ct l yX5_hold wsX5_hold 1 25 D [(cI, .int), (cB, .byte)] [.ref (r 0), .int (iI k), .int (iI sp)] (wM cI r (T, K, ik, SB, SS, SN, tn, TB, F) X Y j) (S := (Int × Gs) × Tb × Tb × (Nat → Int)) (fun u => some (.int (iI u.1.1))) (fun u => u.1 = m_hold k sp T K ik SB SS SN tn TB F) (fun u => wM cI r u.1.2 u.2.1 u.2.2.1 u.2.2.2) := by
  refine CtI.of (cc := cX5_hold) (maxL := 3) (by decide +kernel) rfl (Nat.le_of_ble_eq_true rfl) ?_
  intro pg e s m args below meth c Q A hx hb hml hts hown hP hK hD hS ls hl kend
  have hown : s.vm.findClass RX5 = some m.cls := hown
  have hl : lv_has ls 3 [(0, .ref (r 0)), (1, .int (iI k)), (2, .int (iI sp))] := hl
  obtain ⟨hI, hIK, hik, hSB, hSS, hSN, htn, hTB, hF⟩ := id hG
  have hn := Inv_n hI
  have hdy := Inv_d hI
  have hP : va_P D vwCl (wRo r ik tn j ++ (wA cI (r 1) 100 T ++ (wA cI (r 2) 100 K ++ (wA cI (r 3) 100 X ++ (wA cI (r 4) 100 Y ++ (wA cI (r 5) 8 (fR F) ++ (wA cI (r 6) 120 TB ++ (wA cI (r 7) 4 (bR SB) ++ (wA cI (r 8) 4 SS ++ (wA cI (r 9) 160 SN)))))))))) s.heap := hP
  have hD : va_D A (wRo r ik tn j ++ (wA cI (r 1) 100 T ++ (wA cI (r 2) 100 K ++ (wA cI (r 3) 100 X ++ (wA cI (r 4) 100 Y ++ (wA cI (r 5) 8 (fR F) ++ (wA cI (r 6) 120 TB ++ (wA cI (r 7) 4 (bR SB) ++ (wA cI (r 8) 4 SS ++ (wA cI (r 9) 160 SN)))))))))) := hD
  refine lv_iload_n hx hb dX5_hold_0 rfl (lv_at hl 1 rfl) ?_
  refine x_i2l hx hb (by omega) dX5_hold_1 ?_
  refine x_lconst hx hb 0 rfl dX5_hold_2 ?_
  refine x_ldc2 hx hb 9 rfl hown (hts (.constantLong RX5 43 (9)) (by decide +kernel)) dX5_hold_3 ?_
  refine x_callS (As := [.long (lI k), .long (lI 0), .long (lI 9)]) (rest := []) ⟨hx, hb, hml, hown, hts⟩ (kX5_isIn k 0 9 (by omega) (by omega) (by omega)) (va_cwS 3 hts gX5_hold_X5_isIn rfl rfl rfl ykSX5_isIn ⟨Nat.le_of_ble_eq_true rfl, Nat.le_of_ble_eq_true rfl⟩) hP hK hD hS [] rfl (by decide) (fun _ => rfl) (fun _ => wRo r ik tn j ++ (wA cI (r 1) 100 T ++ (wA cI (r 2) 100 K ++ (wA cI (r 3) 100 X ++ (wA cI (r 4) 100 Y ++ (wA cI (r 5) 8 (fR F) ++ (wA cI (r 6) 120 TB ++ (wA cI (r 7) 4 (bR SB) ++ (wA cI (r 8) 4 SS ++ (wA cI (r 9) 160 SN)))))))))) (fun _ => rfl) rfl hl.1 rfl (Nat.le_of_ble_eq_true rfl) dX5_hold_6 ⟨Nat.le_of_ble_eq_true rfl, Nat.le_of_ble_eq_true rfl⟩ (fun _ H locs _ hP hD hS => ?_)
  refine W.eq (g2 := F0 m 9 ls [.int (iI (b2 (decide (0 ≤ k ∧ k ≤ 9))))]) rfl ?_
  refine x_ifb_eq (tgt := 25) hx hb dX5_hold_9 (by decide) (fun c_9 => ?_) (fun c_9 => ?_)
  · refine lv_aload_n hx hb dX5_hold_25 rfl (lv_at hl 0 rfl) ?_
    refine x_ldc hx hb (-1000001) rfl hown (hts (.constant RX5 37 (-1000001)) (by decide +kernel)) dX5_hold_26 ?_
    refine x_callV (As := [.int (iI (-1000001))]) (rest := []) ⟨hx, hb, hml, hown, hts⟩ (kX5_finds r ik tn j F (-1000001) 0 (by omega) (by omega)) (cwV 1 hts gX5_hold_X5_finds rfl rfl rfl ykVX5_finds ⟨Nat.le_of_ble_eq_true rfl, Nat.le_of_ble_eq_true rfl⟩) hP hK hD hS 0 4 rfl rfl rfl [0, 5] rfl (by decide) (fun _ => rfl) (fun _ => wRo r ik tn j ++ (wA cI (r 1) 100 T ++ (wA cI (r 2) 100 K ++ (wA cI (r 3) 100 X ++ (wA cI (r 4) 100 Y ++ (wA cI (r 5) 8 (fR (bmp 0 F)) ++ (wA cI (r 6) 120 TB ++ (wA cI (r 7) 4 (bR SB) ++ (wA cI (r 8) 4 SS ++ (wA cI (r 9) 160 SN)))))))))) (fun _ => rfl) rfl hl.1 rfl (Nat.le_of_ble_eq_true rfl) dX5_hold_28 ⟨Nat.le_of_ble_eq_true rfl, Nat.le_of_ble_eq_true rfl⟩ (fun _ H locs _ hP hD hS => ?_)
    refine W.eq (g2 := F0 m 31 ls [.int (iI (-1000001))]) rfl ?_
    exact kend (((-1000001), T, K, ik, SB, SS, SN, tn, TB, (bmp 0 F)), X, Y, j) hP hS rfl (if_neg (by omega)).symm dX5_hold_31
  · refine lv_iload_n hx hb dX5_hold_12 rfl (lv_at hl 2 rfl) ?_
    refine x_iconst hx hb dX5_hold_13 ?_
    refine x_icmp_eq (tgt := 32) hx hb (by omega) (by decide) dX5_hold_14 (by decide) (fun c_14 => ?_) (fun c_14 => ?_)
    · obtain ⟨k0, rfl⟩ : ∃ k0 : Nat, k = (k0 : Int) := ⟨k.toNat, by omega⟩
      refine lv_aload_n hx hb dX5_hold_32 rfl (lv_at hl 0 rfl) ?_
      refine va_get (D := D) (ci := 4) (v := .ref (r 1)) (C := RX5) (T := TX5) (N := 18) hx hb hts (iT_X5_hold_X5) hown hK hP 0 rfl rfl 0 (by decide) (hts (.fieldLink RX5 7 "WordSupperModel" "s" "[I") (by decide +kernel)) (fun _ h9 => h9) rfl dX5_hold_33 ?_
      refine x_bipush hx hb dX5_hold_36 (by decide) ?_
      refine lv_iload_n hx hb dX5_hold_38 rfl (lv_at hl 1 rfl) ?_
      refine x_iadd hx hb dX5_hold_39 ?_
      refine x_topi ((90 + k0 : Nat) : Int) (by omega) ?_
      refine lv_iload_n hx hb dX5_hold_40 rfl (lv_at hl 2 rfl) ?_
      refine x_iast hx hb hK hP hD hS 1 0 rfl rfl (90 + k0) rfl (by omega) (by decide) (wRo r ik tn j ++ (wA cI (r 1) 100 (va_up T (90 + k0) sp) ++ (wA cI (r 2) 100 K ++ (wA cI (r 3) 100 X ++ (wA cI (r 4) 100 Y ++ (wA cI (r 5) 8 (fR F) ++ (wA cI (r 6) 120 TB ++ (wA cI (r 7) 4 (bR SB) ++ (wA cI (r 8) 4 SS ++ (wA cI (r 9) 160 SN)))))))))) (by rw [← wA_up cI (r 1) 100 T sp (90 + k0) (by omega)]; rfl) dX5_hold_41 (fun H locs hP hD hS => ?_)
      refine x_iconst hx hb dX5_hold_42 ?_
      exact kend ((1, (va_up T (90 + k0) sp), K, ik, SB, SS, SN, tn, TB, F), X, Y, j) hP hS rfl (if_pos (by omega)).symm dX5_hold_43
    · refine lv_aload_n hx hb dX5_hold_17 rfl (lv_at hl 0 rfl) ?_
      refine lv_iload_n hx hb dX5_hold_18 rfl (lv_at hl 2 rfl) ?_
      refine x_callV (As := [.int (iI sp)]) (rest := []) ⟨hx, hb, hml, hown, hts⟩ (kX5_isOne r ik tn j T sp (by omega) (by omega)) (cwV 1 hts gX5_hold_X5_isOne rfl rfl rfl ykVX5_isOne ⟨Nat.le_of_ble_eq_true rfl, Nat.le_of_ble_eq_true rfl⟩) hP hK hD hS 0 4 rfl rfl rfl [0, 1] rfl (by decide) (fun _ => rfl) (fun _ => wRo r ik tn j ++ (wA cI (r 1) 100 T ++ (wA cI (r 2) 100 K ++ (wA cI (r 3) 100 X ++ (wA cI (r 4) 100 Y ++ (wA cI (r 5) 8 (fR F) ++ (wA cI (r 6) 120 TB ++ (wA cI (r 7) 4 (bR SB) ++ (wA cI (r 8) 4 SS ++ (wA cI (r 9) 160 SN)))))))))) (fun _ => rfl) rfl hl.1 rfl (Nat.le_of_ble_eq_true rfl) dX5_hold_19 ⟨Nat.le_of_ble_eq_true rfl, Nat.le_of_ble_eq_true rfl⟩ (fun _ H locs _ hP hD hS => ?_)
      refine W.eq (g2 := F0 m 22 ls [.int (iI (b2 (decide (0 ≤ sp ∧ sp < T 0))))]) rfl ?_
      refine x_ifb_ne (tgt := 32) hx hb dX5_hold_22 (by decide) (fun c_22 => ?_) (fun c_22 => ?_)
      · obtain ⟨k0, rfl⟩ : ∃ k0 : Nat, k = (k0 : Int) := ⟨k.toNat, by omega⟩
        refine lv_aload_n hx hb dX5_hold_32 rfl (lv_at hl 0 rfl) ?_
        refine va_get (D := D) (ci := 4) (v := .ref (r 1)) (C := RX5) (T := TX5) (N := 18) hx hb hts (iT_X5_hold_X5) hown hK hP 0 rfl rfl 0 (by decide) (hts (.fieldLink RX5 7 "WordSupperModel" "s" "[I") (by decide +kernel)) (fun _ h9 => h9) rfl dX5_hold_33 ?_
        refine x_bipush hx hb dX5_hold_36 (by decide) ?_
        refine lv_iload_n hx hb dX5_hold_38 rfl (lv_at hl 1 rfl) ?_
        refine x_iadd hx hb dX5_hold_39 ?_
        refine x_topi ((90 + k0 : Nat) : Int) (by omega) ?_
        refine lv_iload_n hx hb dX5_hold_40 rfl (lv_at hl 2 rfl) ?_
        refine x_iast hx hb hK hP hD hS 1 0 rfl rfl (90 + k0) rfl (by omega) (by decide) (wRo r ik tn j ++ (wA cI (r 1) 100 (va_up T (90 + k0) sp) ++ (wA cI (r 2) 100 K ++ (wA cI (r 3) 100 X ++ (wA cI (r 4) 100 Y ++ (wA cI (r 5) 8 (fR F) ++ (wA cI (r 6) 120 TB ++ (wA cI (r 7) 4 (bR SB) ++ (wA cI (r 8) 4 SS ++ (wA cI (r 9) 160 SN)))))))))) (by rw [← wA_up cI (r 1) 100 T sp (90 + k0) (by omega)]; rfl) dX5_hold_41 (fun H locs hP hD hS => ?_)
        refine x_iconst hx hb dX5_hold_42 ?_
        exact kend ((1, (va_up T (90 + k0) sp), K, ik, SB, SS, SN, tn, TB, F), X, Y, j) hP hS rfl (if_pos (by omega)).symm dX5_hold_43
      · refine lv_aload_n hx hb dX5_hold_25 rfl (lv_at hl 0 rfl) ?_
        refine x_ldc hx hb (-1000001) rfl hown (hts (.constant RX5 37 (-1000001)) (by decide +kernel)) dX5_hold_26 ?_
        refine x_callV (As := [.int (iI (-1000001))]) (rest := []) ⟨hx, hb, hml, hown, hts⟩ (kX5_finds r ik tn j F (-1000001) 0 (by omega) (by omega)) (cwV 1 hts gX5_hold_X5_finds rfl rfl rfl ykVX5_finds ⟨Nat.le_of_ble_eq_true rfl, Nat.le_of_ble_eq_true rfl⟩) hP hK hD hS 0 4 rfl rfl rfl [0, 5] rfl (by decide) (fun _ => rfl) (fun _ => wRo r ik tn j ++ (wA cI (r 1) 100 T ++ (wA cI (r 2) 100 K ++ (wA cI (r 3) 100 X ++ (wA cI (r 4) 100 Y ++ (wA cI (r 5) 8 (fR (bmp 0 F)) ++ (wA cI (r 6) 120 TB ++ (wA cI (r 7) 4 (bR SB) ++ (wA cI (r 8) 4 SS ++ (wA cI (r 9) 160 SN)))))))))) (fun _ => rfl) rfl hl.1 rfl (Nat.le_of_ble_eq_true rfl) dX5_hold_28 ⟨Nat.le_of_ble_eq_true rfl, Nat.le_of_ble_eq_true rfl⟩ (fun _ H locs _ hP hD hS => ?_)
        refine W.eq (g2 := F0 m 31 ls [.int (iI (-1000001))]) rfl ?_
        exact kend (((-1000001), T, K, ik, SB, SS, SN, tn, TB, (bmp 0 F)), X, Y, j) hP hS rfl (if_neg (by omega)).symm dX5_hold_31
theorem ykSX5_as : yX5_as.cls ≠ "java/lang/invoke/MethodHandle" ∧ yX5_as.cls ≠ "java/lang/invoke/VarHandle" ∧ (parseMethodDescriptor yX5_as.desc).map (fun d => d.parameters.length) = some 2 := by decide +kernel
theorem ykVX5_as : yX5_as.cls = RX5 ∧ yX5_as.cls ≠ "java/lang/invoke/MethodHandle" ∧ yX5_as.cls ≠ "java/lang/invoke/VarHandle" ∧ (parseMethodDescriptor yX5_as.desc).map (fun d => d.parameters.length) = some 2 := ⟨rfl, ykSX5_as⟩
set_option maxRecDepth 20000 in
theorem iT_X5_as_X5 : ∀ w ∈ u_ws RX5 TX5 18, w ∈ wsX5_as := by decide +kernel
set_option maxHeartbeats 4000000 in
set_option maxRecDepth 100000 in
theorem kX5_as {l : Launch} {D : va_G} {cI cB : ClassId} (r : Nat → Nat) (T K : Tb) (ik : Int) (SB SS SN : Nat → Int) (tn : Int) (TB F : Nat → Int) (X Y : Tb) (j : Nat → Int) (k kd : Int) (B : Int) (hG : GI B T K ik SB SS SN tn TB F) (hB : B ≤ 40000) (h_k : rI k) (h_kd : rI kd) : Ct l yX5_as wsX5_as 1 25 D [(cI, .int), (cB, .byte)] [.ref (r 0), .int (iI k), .int (iI kd)] (wM cI r (T, K, ik, SB, SS, SN, tn, TB, F) X Y j) (S := (Int × Gs) × Tb × Tb × (Nat → Int)) (fun u => some (.int (iI u.1.1))) (fun u => u.1 = m_as k kd T K ik SB SS SN tn TB F) (fun u => wM cI r u.1.2 u.2.1 u.2.2.1 u.2.2.2) := by
  refine CtI.of (cc := cX5_as) (maxL := 4) (by decide +kernel) rfl (Nat.le_of_ble_eq_true rfl) ?_
  intro pg e s m args below meth c Q A hx hb hml hts hown hP hK hD hS ls hl kend
  have hown : s.vm.findClass RX5 = some m.cls := hown
  have hl : lv_has ls 4 [(0, .ref (r 0)), (1, .int (iI k)), (2, .int (iI kd))] := hl
  obtain ⟨hI, hIK, hik, hSB, hSS, hSN, htn, hTB, hF⟩ := id hG
  have hn := Inv_n hI
  have hdy := Inv_d hI
  have hP : va_P D vwCl (wRo r ik tn j ++ (wA cI (r 1) 100 T ++ (wA cI (r 2) 100 K ++ (wA cI (r 3) 100 X ++ (wA cI (r 4) 100 Y ++ (wA cI (r 5) 8 (fR F) ++ (wA cI (r 6) 120 TB ++ (wA cI (r 7) 4 (bR SB) ++ (wA cI (r 8) 4 SS ++ (wA cI (r 9) 160 SN)))))))))) s.heap := hP
  have hD : va_D A (wRo r ik tn j ++ (wA cI (r 1) 100 T ++ (wA cI (r 2) 100 K ++ (wA cI (r 3) 100 X ++ (wA cI (r 4) 100 Y ++ (wA cI (r 5) 8 (fR F) ++ (wA cI (r 6) 120 TB ++ (wA cI (r 7) 4 (bR SB) ++ (wA cI (r 8) 4 SS ++ (wA cI (r 9) 160 SN)))))))))) := hD
  refine lv_iload_n hx hb dX5_as_0 rfl (lv_at hl 1 rfl) ?_
  refine x_i2l hx hb (by omega) dX5_as_1 ?_
  refine x_lconst hx hb 0 rfl dX5_as_2 ?_
  refine x_ldc2 hx hb 9 rfl hown (hts (.constantLong RX5 43 (9)) (by decide +kernel)) dX5_as_3 ?_
  refine x_callS (As := [.long (lI k), .long (lI 0), .long (lI 9)]) (rest := []) ⟨hx, hb, hml, hown, hts⟩ (kX5_isIn k 0 9 (by omega) (by omega) (by omega)) (va_cwS 3 hts gX5_as_X5_isIn rfl rfl rfl ykSX5_isIn ⟨Nat.le_of_ble_eq_true rfl, Nat.le_of_ble_eq_true rfl⟩) hP hK hD hS [] rfl (by decide) (fun _ => rfl) (fun _ => wRo r ik tn j ++ (wA cI (r 1) 100 T ++ (wA cI (r 2) 100 K ++ (wA cI (r 3) 100 X ++ (wA cI (r 4) 100 Y ++ (wA cI (r 5) 8 (fR F) ++ (wA cI (r 6) 120 TB ++ (wA cI (r 7) 4 (bR SB) ++ (wA cI (r 8) 4 SS ++ (wA cI (r 9) 160 SN)))))))))) (fun _ => rfl) rfl hl.1 rfl (Nat.le_of_ble_eq_true rfl) dX5_as_6 ⟨Nat.le_of_ble_eq_true rfl, Nat.le_of_ble_eq_true rfl⟩ (fun _ H locs _ hP hD hS => ?_)
  refine W.eq (g2 := F0 m 9 ls [.int (iI (b2 (decide (0 ≤ k ∧ k ≤ 9))))]) rfl ?_
  refine x_ifb_eq (tgt := 24) hx hb dX5_as_9 (by decide) (fun c_9 => ?_) (fun c_9 => ?_)
  · refine lv_aload_n hx hb dX5_as_24 rfl (lv_at hl 0 rfl) ?_
    refine x_ldc hx hb (-1000001) rfl hown (hts (.constant RX5 37 (-1000001)) (by decide +kernel)) dX5_as_25 ?_
    refine x_callV (As := [.int (iI (-1000001))]) (rest := []) ⟨hx, hb, hml, hown, hts⟩ (kX5_finds r ik tn j F (-1000001) 0 (by omega) (by omega)) (cwV 1 hts gX5_as_X5_finds rfl rfl rfl ykVX5_finds ⟨Nat.le_of_ble_eq_true rfl, Nat.le_of_ble_eq_true rfl⟩) hP hK hD hS 0 4 rfl rfl rfl [0, 5] rfl (by decide) (fun _ => rfl) (fun _ => wRo r ik tn j ++ (wA cI (r 1) 100 T ++ (wA cI (r 2) 100 K ++ (wA cI (r 3) 100 X ++ (wA cI (r 4) 100 Y ++ (wA cI (r 5) 8 (fR (bmp 0 F)) ++ (wA cI (r 6) 120 TB ++ (wA cI (r 7) 4 (bR SB) ++ (wA cI (r 8) 4 SS ++ (wA cI (r 9) 160 SN)))))))))) (fun _ => rfl) rfl hl.1 rfl (Nat.le_of_ble_eq_true rfl) dX5_as_27 ⟨Nat.le_of_ble_eq_true rfl, Nat.le_of_ble_eq_true rfl⟩ (fun _ H locs _ hP hD hS => ?_)
    refine W.eq (g2 := F0 m 30 ls [.int (iI (-1000001))]) rfl ?_
    exact kend (((-1000001), T, K, ik, SB, SS, SN, tn, TB, (bmp 0 F)), X, Y, j) hP hS rfl ((if_pos (by omega))).symm dX5_as_30
  · refine lv_iload_n hx hb dX5_as_12 rfl (lv_at hl 2 rfl) ?_
    refine x_i2l hx hb (by omega) dX5_as_13 ?_
    refine x_lconst hx hb 0 rfl dX5_as_14 ?_
    refine x_ldc2 hx hb 6 rfl hown (hts (.constantLong RX5 62 (6)) (by decide +kernel)) dX5_as_15 ?_
    refine x_callS (As := [.long (lI kd), .long (lI 0), .long (lI 6)]) (rest := []) ⟨hx, hb, hml, hown, hts⟩ (kX5_isIn kd 0 6 (by omega) (by omega) (by omega)) (va_cwS 3 hts gX5_as_X5_isIn rfl rfl rfl ykSX5_isIn ⟨Nat.le_of_ble_eq_true rfl, Nat.le_of_ble_eq_true rfl⟩) hP hK hD hS [] rfl (by decide) (fun _ => rfl) (fun _ => wRo r ik tn j ++ (wA cI (r 1) 100 T ++ (wA cI (r 2) 100 K ++ (wA cI (r 3) 100 X ++ (wA cI (r 4) 100 Y ++ (wA cI (r 5) 8 (fR F) ++ (wA cI (r 6) 120 TB ++ (wA cI (r 7) 4 (bR SB) ++ (wA cI (r 8) 4 SS ++ (wA cI (r 9) 160 SN)))))))))) (fun _ => rfl) rfl hl.1 rfl (Nat.le_of_ble_eq_true rfl) dX5_as_18 ⟨Nat.le_of_ble_eq_true rfl, Nat.le_of_ble_eq_true rfl⟩ (fun _ H locs _ hP hD hS => ?_)
    refine W.eq (g2 := F0 m 21 ls [.int (iI (b2 (decide (0 ≤ kd ∧ kd ≤ 6))))]) rfl ?_
    refine x_ifb_ne (tgt := 31) hx hb dX5_as_21 (by decide) (fun c_21 => ?_) (fun c_21 => ?_)
    · obtain ⟨k0, rfl⟩ : ∃ k0 : Nat, k = (k0 : Int) := ⟨k.toNat, by omega⟩
      refine lv_aload_n hx hb dX5_as_31 rfl (lv_at hl 0 rfl) ?_
      refine va_get (D := D) (ci := 4) (v := .ref (r 1)) (C := RX5) (T := TX5) (N := 18) hx hb hts (iT_X5_as_X5) hown hK hP 0 rfl rfl 0 (by decide) (hts (.fieldLink RX5 7 "WordSupperModel" "s" "[I") (by decide +kernel)) (fun _ h9 => h9) rfl dX5_as_32 ?_
      refine x_bipush hx hb dX5_as_35 (by decide) ?_
      refine lv_iload_n hx hb dX5_as_37 rfl (lv_at hl 1 rfl) ?_
      refine x_iadd hx hb dX5_as_38 ?_
      refine x_topi ((90 + k0 : Nat) : Int) (by omega) ?_
      refine x_iald hx hb hK hP 1 0 rfl rfl (90 + k0) rfl (by omega) (by decide) (T (90 + k0)) (gd_at _ (by omega)) dX5_as_39 ?_
      refine lv_istore_n (lv' := [(3, .int (iI (T (90 + k0)))), (0, .ref (r 0)), (1, .int (iI ((k0 : Nat) : Int))), (2, .int (iI kd))]) hx hb dX5_as_40 rfl hl (by decide) rfl (fun ls hl => ?_)
      have hsp := Inv_s hI (k := k0) (by omega)
      refine lv_iload_n hx hb dX5_as_41 rfl (lv_at hl 0 rfl) ?_
      refine x_if_ge (tgt := 53) hx hb (by omega) dX5_as_42 (by decide) (fun c_42 => ?_) (fun c_42 => ?_)
      · refine lv_aload_n hx hb dX5_as_53 rfl (lv_at hl 1 rfl) ?_
        refine lv_iload_n hx hb dX5_as_54 rfl (lv_at hl 0 rfl) ?_
        refine x_topi (((T (90 + k0)).toNat : Nat) : Int) (by omega) ?_
        refine x_iconst hx hb dX5_as_55 ?_
        have hku := Inv_k (p := (T (90 + k0)).toNat) hI (by omega)
        refine x_callV (As := [.int (iI (((T (90 + k0)).toNat : Nat) : Int)), .int (iI 0)]) (rest := []) ⟨hx, hb, hml, hown, hts⟩ (kX5_its r ik tn j T ((T (90 + k0)).toNat) 0 (by omega) (by omega)) (cwV 2 hts gX5_as_X5_its rfl rfl rfl ykVX5_its ⟨Nat.le_of_ble_eq_true rfl, Nat.le_of_ble_eq_true rfl⟩) hP hK hD hS 0 4 rfl rfl rfl [0, 1] rfl (by decide) (fun _ => rfl) (fun _ => wRo r ik tn j ++ (wA cI (r 1) 100 T ++ (wA cI (r 2) 100 K ++ (wA cI (r 3) 100 X ++ (wA cI (r 4) 100 Y ++ (wA cI (r 5) 8 (fR F) ++ (wA cI (r 6) 120 TB ++ (wA cI (r 7) 4 (bR SB) ++ (wA cI (r 8) 4 SS ++ (wA cI (r 9) 160 SN)))))))))) (fun _ => rfl) rfl hl.1 rfl (Nat.le_of_ble_eq_true rfl) dX5_as_56 ⟨Nat.le_of_ble_eq_true rfl, Nat.le_of_ble_eq_true rfl⟩ (fun _ H locs _ hP hD hS => ?_)
        refine W.eq (g2 := F0 m 59 ls [.int (iI (T (cx ((T (90 + k0)).toNat) 0)))]) rfl ?_
        refine lv_iload_n hx hb dX5_as_59 rfl (lv_at hl 3 rfl) ?_
        refine x_callS (As := [.int (iI (T (cx ((T (90 + k0)).toNat) 0))), .int (iI kd)]) (rest := []) ⟨hx, hb, hml, hown, hts⟩ (kX5_isUnder (T (cx ((T (90 + k0)).toNat) 0)) kd (by omega) (by omega)) (va_cwS 2 hts gX5_as_X5_isUnder rfl rfl rfl ykSX5_isUnder ⟨Nat.le_of_ble_eq_true rfl, Nat.le_of_ble_eq_true rfl⟩) hP hK hD hS [] rfl (by decide) (fun _ => rfl) (fun _ => wRo r ik tn j ++ (wA cI (r 1) 100 T ++ (wA cI (r 2) 100 K ++ (wA cI (r 3) 100 X ++ (wA cI (r 4) 100 Y ++ (wA cI (r 5) 8 (fR F) ++ (wA cI (r 6) 120 TB ++ (wA cI (r 7) 4 (bR SB) ++ (wA cI (r 8) 4 SS ++ (wA cI (r 9) 160 SN)))))))))) (fun _ => rfl) rfl hl.1 rfl (Nat.le_of_ble_eq_true rfl) dX5_as_60 ⟨Nat.le_of_ble_eq_true rfl, Nat.le_of_ble_eq_true rfl⟩ (fun _ H locs _ hP hD hS => ?_)
        refine W.eq (g2 := F0 m 63 ls [.int (iI (b2 (decide (unB (T (cx ((T (90 + k0)).toNat) 0)) kd = true))))]) rfl ?_
        refine x_ifb_eq (tgt := 70) hx hb dX5_as_63 (by decide) (fun c_63 => ?_) (fun c_63 => ?_)
        · refine lv_aload_n hx hb dX5_as_70 rfl (lv_at hl 1 rfl) ?_
          refine x_ldcw hx hb (-1000003) rfl hown (hts (.constant RX5 277 (-1000003)) (by decide +kernel)) dX5_as_71 ?_
          refine x_callV (As := [.int (iI (-1000003))]) (rest := []) ⟨hx, hb, hml, hown, hts⟩ (kX5_finds r ik tn j F (-1000003) 2 (by omega) (by omega)) (cwV 1 hts gX5_as_X5_finds rfl rfl rfl ykVX5_finds ⟨Nat.le_of_ble_eq_true rfl, Nat.le_of_ble_eq_true rfl⟩) hP hK hD hS 0 4 rfl rfl rfl [0, 5] rfl (by decide) (fun _ => rfl) (fun _ => wRo r ik tn j ++ (wA cI (r 1) 100 T ++ (wA cI (r 2) 100 K ++ (wA cI (r 3) 100 X ++ (wA cI (r 4) 100 Y ++ (wA cI (r 5) 8 (fR (bmp 2 F)) ++ (wA cI (r 6) 120 TB ++ (wA cI (r 7) 4 (bR SB) ++ (wA cI (r 8) 4 SS ++ (wA cI (r 9) 160 SN)))))))))) (fun _ => rfl) rfl hl.1 rfl (Nat.le_of_ble_eq_true rfl) dX5_as_74 ⟨Nat.le_of_ble_eq_true rfl, Nat.le_of_ble_eq_true rfl⟩ (fun _ H locs _ hP hD hS => ?_)
          refine W.eq (g2 := F0 m 77 ls [.int (iI (-1000003))]) rfl ?_
          exact kend (((-1000003), T, K, ik, SB, SS, SN, tn, TB, (bmp 2 F)), X, Y, j) hP hS rfl (by unfold m_as; (try simp only [Int.toNat_natCast]); rw [if_neg (by omega), if_neg (by omega), if_neg c_63] <;> rfl) dX5_as_77
        · refine lv_iload_n hx hb dX5_as_66 rfl (lv_at hl 0 rfl) ?_
          refine lv_goto (tgt := 77) hx hb dX5_as_67 (by decide) ?_
          exact kend ((T (90 + k0), T, K, ik, SB, SS, SN, tn, TB, F), X, Y, j) hP hS rfl (by unfold m_as; (try simp only [Int.toNat_natCast]); rw [if_neg (by omega), if_neg (by omega), if_pos c_63] <;> rfl) dX5_as_77
      · refine lv_aload_n hx hb dX5_as_45 rfl (lv_at hl 1 rfl) ?_
        refine x_ldcw hx hb (-1000006) rfl hown (hts (.constant RX5 273 (-1000006)) (by decide +kernel)) dX5_as_46 ?_
        refine x_callV (As := [.int (iI (-1000006))]) (rest := []) ⟨hx, hb, hml, hown, hts⟩ (kX5_finds r ik tn j F (-1000006) 5 (by omega) (by omega)) (cwV 1 hts gX5_as_X5_finds rfl rfl rfl ykVX5_finds ⟨Nat.le_of_ble_eq_true rfl, Nat.le_of_ble_eq_true rfl⟩) hP hK hD hS 0 4 rfl rfl rfl [0, 5] rfl (by decide) (fun _ => rfl) (fun _ => wRo r ik tn j ++ (wA cI (r 1) 100 T ++ (wA cI (r 2) 100 K ++ (wA cI (r 3) 100 X ++ (wA cI (r 4) 100 Y ++ (wA cI (r 5) 8 (fR (bmp 5 F)) ++ (wA cI (r 6) 120 TB ++ (wA cI (r 7) 4 (bR SB) ++ (wA cI (r 8) 4 SS ++ (wA cI (r 9) 160 SN)))))))))) (fun _ => rfl) rfl hl.1 rfl (Nat.le_of_ble_eq_true rfl) dX5_as_49 ⟨Nat.le_of_ble_eq_true rfl, Nat.le_of_ble_eq_true rfl⟩ (fun _ H locs _ hP hD hS => ?_)
        refine W.eq (g2 := F0 m 52 ls [.int (iI (-1000006))]) rfl ?_
        exact kend (((-1000006), T, K, ik, SB, SS, SN, tn, TB, (bmp 5 F)), X, Y, j) hP hS rfl (by unfold m_as; (try simp only [Int.toNat_natCast]); rw [if_neg (by omega), if_pos (by omega)] <;> rfl) dX5_as_52
    · refine lv_aload_n hx hb dX5_as_24 rfl (lv_at hl 0 rfl) ?_
      refine x_ldc hx hb (-1000001) rfl hown (hts (.constant RX5 37 (-1000001)) (by decide +kernel)) dX5_as_25 ?_
      refine x_callV (As := [.int (iI (-1000001))]) (rest := []) ⟨hx, hb, hml, hown, hts⟩ (kX5_finds r ik tn j F (-1000001) 0 (by omega) (by omega)) (cwV 1 hts gX5_as_X5_finds rfl rfl rfl ykVX5_finds ⟨Nat.le_of_ble_eq_true rfl, Nat.le_of_ble_eq_true rfl⟩) hP hK hD hS 0 4 rfl rfl rfl [0, 5] rfl (by decide) (fun _ => rfl) (fun _ => wRo r ik tn j ++ (wA cI (r 1) 100 T ++ (wA cI (r 2) 100 K ++ (wA cI (r 3) 100 X ++ (wA cI (r 4) 100 Y ++ (wA cI (r 5) 8 (fR (bmp 0 F)) ++ (wA cI (r 6) 120 TB ++ (wA cI (r 7) 4 (bR SB) ++ (wA cI (r 8) 4 SS ++ (wA cI (r 9) 160 SN)))))))))) (fun _ => rfl) rfl hl.1 rfl (Nat.le_of_ble_eq_true rfl) dX5_as_27 ⟨Nat.le_of_ble_eq_true rfl, Nat.le_of_ble_eq_true rfl⟩ (fun _ H locs _ hP hD hS => ?_)
      refine W.eq (g2 := F0 m 30 ls [.int (iI (-1000001))]) rfl ?_
      exact kend (((-1000001), T, K, ik, SB, SS, SN, tn, TB, (bmp 0 F)), X, Y, j) hP hS rfl ((if_pos (by omega))).symm dX5_as_30
theorem ykSX5_sheet : yX5_sheet.cls ≠ "java/lang/invoke/MethodHandle" ∧ yX5_sheet.cls ≠ "java/lang/invoke/VarHandle" ∧ (parseMethodDescriptor yX5_sheet.desc).map (fun d => d.parameters.length) = some 3 := by decide +kernel
theorem ykVX5_sheet : yX5_sheet.cls = RX5 ∧ yX5_sheet.cls ≠ "java/lang/invoke/MethodHandle" ∧ yX5_sheet.cls ≠ "java/lang/invoke/VarHandle" ∧ (parseMethodDescriptor yX5_sheet.desc).map (fun d => d.parameters.length) = some 3 := ⟨rfl, ykSX5_sheet⟩
set_option maxRecDepth 20000 in
theorem iT_X5_sheet_X5 : ∀ w ∈ u_ws RX5 TX5 18, w ∈ wsX5_sheet := by decide +kernel
set_option maxHeartbeats 4000000 in
set_option maxRecDepth 100000 in
theorem kX5_sheet {l : Launch} {D : va_G} {cI cB : ClassId} (r : Nat → Nat) (T K : Tb) (ik : Int) (SB SS SN : Nat → Int) (tn : Int) (TB F : Nat → Int) (X Y : Tb) (j : Nat → Int) (s0 bt n : Int) (B : Int) (hG : GI B T K ik SB SS SN tn TB F) (hB : B ≤ 40000) (h_s0 : rI s0) (h_bt : rI bt) (h_n : rI n) : Ct l yX5_sheet wsX5_sheet 1 21 D [(cI, .int), (cB, .byte)] [.ref (r 0), .int (iI s0), .int (iI bt), .int (iI n)] (wM cI r (T, K, ik, SB, SS, SN, tn, TB, F) X Y j) (S := (Int × Gs) × Tb × Tb × (Nat → Int)) (fun u => some (.int (iI u.1.1))) (fun u => u.1 = m_sheet s0 bt n T K ik SB SS SN tn TB F) (fun u => wM cI r u.1.2 u.2.1 u.2.2.1 u.2.2.2) := by
  refine CtI.of (cc := cX5_sheet) (maxL := 5) (by decide +kernel) rfl (Nat.le_of_ble_eq_true rfl) ?_
  intro pg e s m args below meth c Q A hx hb hml hts hown hP hK hD hS ls hl kend
  have hown : s.vm.findClass RX5 = some m.cls := hown
  have hl : lv_has ls 5 [(0, .ref (r 0)), (1, .int (iI s0)), (2, .int (iI bt)), (3, .int (iI n))] := hl
  obtain ⟨hI, hIK, hik, hSB, hSS, hSN, htn, hTB, hF⟩ := id hG
  have hn := Inv_n hI
  have hdy := Inv_d hI
  have hP : va_P D vwCl (wRo r ik tn j ++ (wA cI (r 1) 100 T ++ (wA cI (r 2) 100 K ++ (wA cI (r 3) 100 X ++ (wA cI (r 4) 100 Y ++ (wA cI (r 5) 8 (fR F) ++ (wA cI (r 6) 120 TB ++ (wA cI (r 7) 4 (bR SB) ++ (wA cI (r 8) 4 SS ++ (wA cI (r 9) 160 SN)))))))))) s.heap := hP
  have hD : va_D A (wRo r ik tn j ++ (wA cI (r 1) 100 T ++ (wA cI (r 2) 100 K ++ (wA cI (r 3) 100 X ++ (wA cI (r 4) 100 Y ++ (wA cI (r 5) 8 (fR F) ++ (wA cI (r 6) 120 TB ++ (wA cI (r 7) 4 (bR SB) ++ (wA cI (r 8) 4 SS ++ (wA cI (r 9) 160 SN)))))))))) := hD
  refine lv_iload_n hx hb dX5_sheet_0 rfl (lv_at hl 1 rfl) ?_
  refine x_callS (As := [.int (iI s0)]) (rest := []) ⟨hx, hb, hml, hown, hts⟩ (kX5_isSheet s0 (by omega)) (va_cwS 1 hts gX5_sheet_X5_isSheet rfl rfl rfl ykSX5_isSheet ⟨Nat.le_of_ble_eq_true rfl, Nat.le_of_ble_eq_true rfl⟩) hP hK hD hS [] rfl (by decide) (fun _ => rfl) (fun _ => wRo r ik tn j ++ (wA cI (r 1) 100 T ++ (wA cI (r 2) 100 K ++ (wA cI (r 3) 100 X ++ (wA cI (r 4) 100 Y ++ (wA cI (r 5) 8 (fR F) ++ (wA cI (r 6) 120 TB ++ (wA cI (r 7) 4 (bR SB) ++ (wA cI (r 8) 4 SS ++ (wA cI (r 9) 160 SN)))))))))) (fun _ => rfl) rfl hl.1 rfl (Nat.le_of_ble_eq_true rfl) dX5_sheet_1 ⟨Nat.le_of_ble_eq_true rfl, Nat.le_of_ble_eq_true rfl⟩ (fun _ H locs _ hP hD hS => ?_)
  refine W.eq (g2 := F0 m 4 ls [.int (iI (b2 (decide (0 ≤ s0 ∧ s0 < 4))))]) rfl ?_
  refine x_ifb_eq (tgt := 29) hx hb dX5_sheet_4 (by decide) (fun c_4 => ?_) (fun c_4 => ?_)
  · refine lv_aload_n hx hb dX5_sheet_29 rfl (lv_at hl 0 rfl) ?_
    refine x_ldc hx hb (-1000001) rfl hown (hts (.constant RX5 37 (-1000001)) (by decide +kernel)) dX5_sheet_30 ?_
    refine x_callV (As := [.int (iI (-1000001))]) (rest := []) ⟨hx, hb, hml, hown, hts⟩ (kX5_finds r ik tn j F (-1000001) 0 (by omega) (by omega)) (cwV 1 hts gX5_sheet_X5_finds rfl rfl rfl ykVX5_finds ⟨Nat.le_of_ble_eq_true rfl, Nat.le_of_ble_eq_true rfl⟩) hP hK hD hS 0 4 rfl rfl rfl [0, 5] rfl (by decide) (fun _ => rfl) (fun _ => wRo r ik tn j ++ (wA cI (r 1) 100 T ++ (wA cI (r 2) 100 K ++ (wA cI (r 3) 100 X ++ (wA cI (r 4) 100 Y ++ (wA cI (r 5) 8 (fR (bmp 0 F)) ++ (wA cI (r 6) 120 TB ++ (wA cI (r 7) 4 (bR SB) ++ (wA cI (r 8) 4 SS ++ (wA cI (r 9) 160 SN)))))))))) (fun _ => rfl) rfl hl.1 rfl (Nat.le_of_ble_eq_true rfl) dX5_sheet_32 ⟨Nat.le_of_ble_eq_true rfl, Nat.le_of_ble_eq_true rfl⟩ (fun _ H locs _ hP hD hS => ?_)
    refine W.eq (g2 := F0 m 35 ls [.int (iI (-1000001))]) rfl ?_
    exact kend (((-1000001), T, K, ik, SB, SS, SN, tn, TB, (bmp 0 F)), X, Y, j) hP hS rfl (by first | exact ((if_pos (by omega))).symm | exact (((if_neg (by omega)).trans ((if_neg (by omega)).trans (if_pos (by omega))))).symm) dX5_sheet_35
  · refine lv_iload_n hx hb dX5_sheet_7 rfl (lv_at hl 2 rfl) ?_
    refine x_if_eq (tgt := 36) hx hb (by omega) dX5_sheet_8 (by decide) (fun c_8 => ?_) (fun c_8 => ?_)
    · refine lv_iload_n hx hb dX5_sheet_36 rfl (lv_at hl 3 rfl) ?_
      refine x_if_ge (tgt := 48) hx hb (by omega) dX5_sheet_37 (by decide) (fun c_37 => ?_) (fun c_37 => ?_)
      · refine lv_iload_n hx hb dX5_sheet_48 rfl (lv_at hl 3 rfl) ?_
        refine x_bipush hx hb dX5_sheet_49 (by decide) ?_
        refine x_icmp_le (tgt := 61) hx hb (by omega) (by decide) dX5_sheet_51 (by decide) (fun c_51 => ?_) (fun c_51 => ?_)
        · obtain ⟨s1, rfl⟩ : ∃ s1 : Nat, s0 = (s1 : Int) := ⟨s0.toNat, by omega⟩
          refine lv_aload_n hx hb dX5_sheet_61 rfl (lv_at hl 0 rfl) ?_
          refine va_get (D := D) (ci := 4) (v := .ref (r 7)) (C := RX5) (T := TX5) (N := 18) hx hb hts (iT_X5_sheet_X5) hown hK hP 0 rfl rfl 8 (by decide) (hts (.fieldLink RX5 28 "WordSupperModel" "bitsOf" "[I") (by decide +kernel)) (fun _ h9 => h9) rfl dX5_sheet_62 ?_
          refine lv_iload_n hx hb dX5_sheet_65 rfl (lv_at hl 1 rfl) ?_
          refine lv_iload_n hx hb dX5_sheet_66 rfl (lv_at hl 2 rfl) ?_
          refine x_if_ne (tgt := 74) hx hb (by omega) dX5_sheet_67 (by decide) (fun c_67 => ?_) (fun c_67 => ?_)
          · refine lv_iload_n hx hb dX5_sheet_74 rfl (lv_at hl 2 rfl) ?_
            refine x_iast hx hb hK hP hD hS 7 0 rfl rfl s1 rfl (by omega) (by decide) (wRo r ik tn j ++ (wA cI (r 1) 100 T ++ (wA cI (r 2) 100 K ++ (wA cI (r 3) 100 X ++ (wA cI (r 4) 100 Y ++ (wA cI (r 5) 8 (fR F) ++ (wA cI (r 6) 120 TB ++ (wA cI (r 7) 4 (va_up (bR SB) s1 bt) ++ (wA cI (r 8) 4 SS ++ (wA cI (r 9) 160 SN)))))))))) (by rw [← wA_up cI (r 7) 4 (bR SB) bt s1 (by omega)]; rfl) dX5_sheet_75 (fun H locs hP hD hS => ?_)
            rw [bR_up1 _ _ (show bt ≠ 0 by omega)] at hP hD
            refine lv_aload_n hx hb dX5_sheet_76 rfl (lv_at hl 0 rfl) ?_
            refine va_get (D := D) (ci := 4) (v := .ref (r 8)) (C := RX5) (T := TX5) (N := 18) hx hb hts (iT_X5_sheet_X5) hown hK hP 0 rfl rfl 9 (by decide) (hts (.fieldLink RX5 31 "WordSupperModel" "sizes" "[I") (by decide +kernel)) (fun _ h9 => h9) rfl dX5_sheet_77 ?_
            refine lv_iload_n hx hb dX5_sheet_80 rfl (lv_at hl 1 rfl) ?_
            refine lv_iload_n hx hb dX5_sheet_81 rfl (lv_at hl 2 rfl) ?_
            refine x_if_ne (tgt := 89) hx hb (by omega) dX5_sheet_82 (by decide) (fun c_82 => ?_) (fun c_82 => ?_)
            · refine lv_iload_n hx hb dX5_sheet_89 rfl (lv_at hl 3 rfl) ?_
              refine x_iast hx hb hK hP hD hS 8 0 rfl rfl s1 rfl (by omega) (by decide) (wRo r ik tn j ++ (wA cI (r 1) 100 T ++ (wA cI (r 2) 100 K ++ (wA cI (r 3) 100 X ++ (wA cI (r 4) 100 Y ++ (wA cI (r 5) 8 (fR F) ++ (wA cI (r 6) 120 TB ++ (wA cI (r 7) 4 (bR (va_up SB s1 bt)) ++ (wA cI (r 8) 4 (va_up SS s1 n) ++ (wA cI (r 9) 160 SN)))))))))) (by rw [← wA_up cI (r 8) 4 SS n s1 (by omega)]; rfl) dX5_sheet_90 (fun H locs hP hD hS => ?_)
              refine x_iconst hx hb dX5_sheet_91 ?_
              refine lv_istore (lv' := [(4, .int (iI 0)), (0, .ref (r 0)), (1, .int (iI ((s1 : Nat) : Int))), (2, .int (iI bt)), (3, .int (iI n))]) hx hb dX5_sheet_92 hl (by decide) rfl (fun ls hl => ?_)
              have L94 : ∀ (k t : Nat) (Nt : Nat → Int) (H : Heap) (locs : List Loc) (ls : Array Slot), t + k = 40 → (zeF (40 * s1) k t Nt = zeF (40 * s1) 40 0 SN) → va_P D vwCl (wRo r ik tn j ++ (wA cI (r 1) 100 T ++ (wA cI (r 2) 100 K ++ (wA cI (r 3) 100 X ++ (wA cI (r 4) 100 Y ++ (wA cI (r 5) 8 (fR F) ++ (wA cI (r 6) 120 TB ++ (wA cI (r 7) 4 (bR (va_up SB s1 bt)) ++ (wA cI (r 8) 4 (va_up SS s1 n) ++ (wA cI (r 9) 160 Nt)))))))))) H → va_D A (wRo r ik tn j ++ (wA cI (r 1) 100 T ++ (wA cI (r 2) 100 K ++ (wA cI (r 3) 100 X ++ (wA cI (r 4) 100 Y ++ (wA cI (r 5) 8 (fR F) ++ (wA cI (r 6) 120 TB ++ (wA cI (r 7) 4 (bR (va_up SB s1 bt)) ++ (wA cI (r 8) 4 (va_up SS s1 n) ++ (wA cI (r 9) 160 Nt)))))))))) → va_S A s.heap H locs → lv_has ls 5 [(0, .ref (r 0)), (1, .int (iI ((s1 : Nat) : Int))), (2, .int (iI bt)), (3, .int (iI n)), (4, .int (iI ((t : Nat) : Int)))] → W pg l e { frames := 1, cells := 0, slots := 0, locals := 21 } s m args below meth c H locs 0 0 Q (F0 m 94 ls []) := by
                intro k
                induction k with
                | zero =>
                  intro t Nt H locs ls hkt hr hP hD hS hl
                  refine lv_iload hx hb dX5_sheet_94 (lv_at hl 4 rfl) ?_
                  refine x_bipush hx hb dX5_sheet_96 (by decide) ?_
                  refine x_icmp_ge (tgt := 120) hx hb (by omega) (by decide) dX5_sheet_98 (by decide) (fun c_98 => ?_) (fun c_98 => ?_)
                  · refine lv_aload_n hx hb dX5_sheet_120 rfl (lv_at hl 0 rfl) ?_
                    refine va_get (D := D) (ci := 4) (v := .ref (r 8)) (C := RX5) (T := TX5) (N := 18) hx hb hts (iT_X5_sheet_X5) hown hK hP 0 rfl rfl 9 (by decide) (hts (.fieldLink RX5 31 "WordSupperModel" "sizes" "[I") (by decide +kernel)) (fun _ h9 => h9) rfl dX5_sheet_121 ?_
                    refine lv_iload_n hx hb dX5_sheet_124 rfl (lv_at hl 1 rfl) ?_
                    refine x_iald hx hb hK hP 8 0 rfl rfl s1 rfl (by omega) (by decide) ((va_up SS s1 n) s1) (gd_at _ (by omega)) dX5_sheet_125 ?_
                    exact kend (((va_up SS s1 n) s1, T, K, ik, (va_up SB s1 bt), (va_up SS s1 n), Nt, tn, TB, F), X, Y, j) hP hS rfl (by unfold m_sheet; rw [if_neg (by omega), if_neg (by omega), if_neg (by omega), if_neg (by omega), Int.toNat_natCast, ← hr, up_s] <;> rfl) dX5_sheet_126
                  · exfalso; omega
                | succ k ih =>
                  intro t Nt H locs ls hkt hr hP hD hS hl
                  refine lv_iload hx hb dX5_sheet_94 (lv_at hl 4 rfl) ?_
                  refine x_bipush hx hb dX5_sheet_96 (by decide) ?_
                  refine x_icmp_ge (tgt := 120) hx hb (by omega) (by decide) dX5_sheet_98 (by decide) (fun c_98 => ?_) (fun c_98 => ?_)
                  · exfalso; omega
                  · refine lv_aload_n hx hb dX5_sheet_101 rfl (lv_at hl 0 rfl) ?_
                    refine va_get (D := D) (ci := 4) (v := .ref (r 9)) (C := RX5) (T := TX5) (N := 18) hx hb hts (iT_X5_sheet_X5) hown hK hP 0 rfl rfl 10 (by decide) (hts (.fieldLink RX5 34 "WordSupperModel" "numbers" "[I") (by decide +kernel)) (fun _ h9 => h9) rfl dX5_sheet_102 ?_
                    refine x_bipush hx hb dX5_sheet_105 (by decide) ?_
                    refine lv_iload_n hx hb dX5_sheet_107 rfl (lv_at hl 1 rfl) ?_
                    refine x_imul hx hb dX5_sheet_108 ?_
                    refine x_topi ((40 * s1 : Nat) : Int) (by omega) ?_
                    refine lv_iload hx hb dX5_sheet_109 (lv_at hl 4 rfl) ?_
                    refine x_iadd hx hb dX5_sheet_111 ?_
                    refine x_topi (((40 * s1) + t : Nat) : Int) (by omega) ?_
                    refine x_iconst hx hb dX5_sheet_112 ?_
                    refine x_iast hx hb hK hP hD hS 9 0 rfl rfl ((40 * s1) + t) rfl (by omega) (by decide) (wRo r ik tn j ++ (wA cI (r 1) 100 T ++ (wA cI (r 2) 100 K ++ (wA cI (r 3) 100 X ++ (wA cI (r 4) 100 Y ++ (wA cI (r 5) 8 (fR F) ++ (wA cI (r 6) 120 TB ++ (wA cI (r 7) 4 (bR (va_up SB s1 bt)) ++ (wA cI (r 8) 4 (va_up SS s1 n) ++ (wA cI (r 9) 160 (va_up Nt ((40 * s1) + t) 0))))))))))) (by rw [← wA_up cI (r 9) 160 Nt 0 ((40 * s1) + t) (by omega)]; rfl) dX5_sheet_113 (fun H locs hP hD hS => ?_)
                    refine x_iinc hx hb 4 ((t + 1 : Nat) : Int) (by omega) [(4, .int (iI ((t + 1 : Nat) : Int))), (0, .ref (r 0)), (1, .int (iI ((s1 : Nat) : Int))), (2, .int (iI bt)), (3, .int (iI n))] dX5_sheet_114 hl rfl (by decide) rfl (fun ls hl => ?_)
                    refine lv_goto (tgt := 94) hx hb dX5_sheet_117 (by decide) ?_
                    exact ih (t + 1) (va_up Nt ((40 * s1) + t) 0) _ _ _ (by omega) hr hP hD hS (lv_sub hl [1, 2, 3, 4, 0] rfl)
              exact L94 40 0 SN _ _ _ (by omega) rfl hP hD hS (lv_sub hl [1, 2, 3, 4, 0] rfl)
            · refine x_iconst hx hb dX5_sheet_85 ?_
              refine lv_goto (tgt := 90) hx hb dX5_sheet_86 (by decide) ?_
              refine x_iast hx hb hK hP hD hS 8 0 rfl rfl s1 rfl (by omega) (by decide) (wRo r ik tn j ++ (wA cI (r 1) 100 T ++ (wA cI (r 2) 100 K ++ (wA cI (r 3) 100 X ++ (wA cI (r 4) 100 Y ++ (wA cI (r 5) 8 (fR F) ++ (wA cI (r 6) 120 TB ++ (wA cI (r 7) 4 (bR (va_up SB s1 bt)) ++ (wA cI (r 8) 4 (va_up SS s1 0) ++ (wA cI (r 9) 160 SN)))))))))) (by rw [← wA_up cI (r 8) 4 SS 0 s1 (by omega)]; rfl) dX5_sheet_90 (fun H locs hP hD hS => ?_)
              refine x_iconst hx hb dX5_sheet_91 ?_
              refine lv_istore (lv' := [(4, .int (iI 0)), (0, .ref (r 0)), (1, .int (iI ((s1 : Nat) : Int))), (2, .int (iI bt)), (3, .int (iI n))]) hx hb dX5_sheet_92 hl (by decide) rfl (fun ls hl => ?_)
              have L94 : ∀ (k t : Nat) (Nt : Nat → Int) (H : Heap) (locs : List Loc) (ls : Array Slot), t + k = 40 → (zeF (40 * s1) k t Nt = zeF (40 * s1) 40 0 SN) → va_P D vwCl (wRo r ik tn j ++ (wA cI (r 1) 100 T ++ (wA cI (r 2) 100 K ++ (wA cI (r 3) 100 X ++ (wA cI (r 4) 100 Y ++ (wA cI (r 5) 8 (fR F) ++ (wA cI (r 6) 120 TB ++ (wA cI (r 7) 4 (bR (va_up SB s1 bt)) ++ (wA cI (r 8) 4 (va_up SS s1 0) ++ (wA cI (r 9) 160 Nt)))))))))) H → va_D A (wRo r ik tn j ++ (wA cI (r 1) 100 T ++ (wA cI (r 2) 100 K ++ (wA cI (r 3) 100 X ++ (wA cI (r 4) 100 Y ++ (wA cI (r 5) 8 (fR F) ++ (wA cI (r 6) 120 TB ++ (wA cI (r 7) 4 (bR (va_up SB s1 bt)) ++ (wA cI (r 8) 4 (va_up SS s1 0) ++ (wA cI (r 9) 160 Nt)))))))))) → va_S A s.heap H locs → lv_has ls 5 [(0, .ref (r 0)), (1, .int (iI ((s1 : Nat) : Int))), (2, .int (iI bt)), (3, .int (iI n)), (4, .int (iI ((t : Nat) : Int)))] → W pg l e { frames := 1, cells := 0, slots := 0, locals := 21 } s m args below meth c H locs 0 0 Q (F0 m 94 ls []) := by
                intro k
                induction k with
                | zero =>
                  intro t Nt H locs ls hkt hr hP hD hS hl
                  refine lv_iload hx hb dX5_sheet_94 (lv_at hl 4 rfl) ?_
                  refine x_bipush hx hb dX5_sheet_96 (by decide) ?_
                  refine x_icmp_ge (tgt := 120) hx hb (by omega) (by decide) dX5_sheet_98 (by decide) (fun c_98 => ?_) (fun c_98 => ?_)
                  · refine lv_aload_n hx hb dX5_sheet_120 rfl (lv_at hl 0 rfl) ?_
                    refine va_get (D := D) (ci := 4) (v := .ref (r 8)) (C := RX5) (T := TX5) (N := 18) hx hb hts (iT_X5_sheet_X5) hown hK hP 0 rfl rfl 9 (by decide) (hts (.fieldLink RX5 31 "WordSupperModel" "sizes" "[I") (by decide +kernel)) (fun _ h9 => h9) rfl dX5_sheet_121 ?_
                    refine lv_iload_n hx hb dX5_sheet_124 rfl (lv_at hl 1 rfl) ?_
                    refine x_iald hx hb hK hP 8 0 rfl rfl s1 rfl (by omega) (by decide) ((va_up SS s1 0) s1) (gd_at _ (by omega)) dX5_sheet_125 ?_
                    exact kend (((va_up SS s1 0) s1, T, K, ik, (va_up SB s1 bt), (va_up SS s1 0), Nt, tn, TB, F), X, Y, j) hP hS rfl (by exfalso; omega) dX5_sheet_126
                  · exfalso; omega
                | succ k ih =>
                  intro t Nt H locs ls hkt hr hP hD hS hl
                  refine lv_iload hx hb dX5_sheet_94 (lv_at hl 4 rfl) ?_
                  refine x_bipush hx hb dX5_sheet_96 (by decide) ?_
                  refine x_icmp_ge (tgt := 120) hx hb (by omega) (by decide) dX5_sheet_98 (by decide) (fun c_98 => ?_) (fun c_98 => ?_)
                  · exfalso; omega
                  · refine lv_aload_n hx hb dX5_sheet_101 rfl (lv_at hl 0 rfl) ?_
                    refine va_get (D := D) (ci := 4) (v := .ref (r 9)) (C := RX5) (T := TX5) (N := 18) hx hb hts (iT_X5_sheet_X5) hown hK hP 0 rfl rfl 10 (by decide) (hts (.fieldLink RX5 34 "WordSupperModel" "numbers" "[I") (by decide +kernel)) (fun _ h9 => h9) rfl dX5_sheet_102 ?_
                    refine x_bipush hx hb dX5_sheet_105 (by decide) ?_
                    refine lv_iload_n hx hb dX5_sheet_107 rfl (lv_at hl 1 rfl) ?_
                    refine x_imul hx hb dX5_sheet_108 ?_
                    refine x_topi ((40 * s1 : Nat) : Int) (by omega) ?_
                    refine lv_iload hx hb dX5_sheet_109 (lv_at hl 4 rfl) ?_
                    refine x_iadd hx hb dX5_sheet_111 ?_
                    refine x_topi (((40 * s1) + t : Nat) : Int) (by omega) ?_
                    refine x_iconst hx hb dX5_sheet_112 ?_
                    refine x_iast hx hb hK hP hD hS 9 0 rfl rfl ((40 * s1) + t) rfl (by omega) (by decide) (wRo r ik tn j ++ (wA cI (r 1) 100 T ++ (wA cI (r 2) 100 K ++ (wA cI (r 3) 100 X ++ (wA cI (r 4) 100 Y ++ (wA cI (r 5) 8 (fR F) ++ (wA cI (r 6) 120 TB ++ (wA cI (r 7) 4 (bR (va_up SB s1 bt)) ++ (wA cI (r 8) 4 (va_up SS s1 0) ++ (wA cI (r 9) 160 (va_up Nt ((40 * s1) + t) 0))))))))))) (by rw [← wA_up cI (r 9) 160 Nt 0 ((40 * s1) + t) (by omega)]; rfl) dX5_sheet_113 (fun H locs hP hD hS => ?_)
                    refine x_iinc hx hb 4 ((t + 1 : Nat) : Int) (by omega) [(4, .int (iI ((t + 1 : Nat) : Int))), (0, .ref (r 0)), (1, .int (iI ((s1 : Nat) : Int))), (2, .int (iI bt)), (3, .int (iI n))] dX5_sheet_114 hl rfl (by decide) rfl (fun ls hl => ?_)
                    refine lv_goto (tgt := 94) hx hb dX5_sheet_117 (by decide) ?_
                    exact ih (t + 1) (va_up Nt ((40 * s1) + t) 0) _ _ _ (by omega) hr hP hD hS (lv_sub hl [1, 2, 3, 4, 0] rfl)
              exact L94 40 0 SN _ _ _ (by omega) rfl hP hD hS (lv_sub hl [1, 2, 3, 4, 0] rfl)
          · obtain rfl : bt = 0 := by omega
            refine x_iconst hx hb dX5_sheet_70 ?_
            refine lv_goto (tgt := 75) hx hb dX5_sheet_71 (by decide) ?_
            refine x_iast hx hb hK hP hD hS 7 0 rfl rfl s1 rfl (by omega) (by decide) (wRo r ik tn j ++ (wA cI (r 1) 100 T ++ (wA cI (r 2) 100 K ++ (wA cI (r 3) 100 X ++ (wA cI (r 4) 100 Y ++ (wA cI (r 5) 8 (fR F) ++ (wA cI (r 6) 120 TB ++ (wA cI (r 7) 4 (va_up (bR SB) s1 (-1)) ++ (wA cI (r 8) 4 SS ++ (wA cI (r 9) 160 SN)))))))))) (by rw [← wA_up cI (r 7) 4 (bR SB) (-1) s1 (by omega)]; rfl) dX5_sheet_75 (fun H locs hP hD hS => ?_)
            rw [bR_up0] at hP hD
            refine lv_aload_n hx hb dX5_sheet_76 rfl (lv_at hl 0 rfl) ?_
            refine va_get (D := D) (ci := 4) (v := .ref (r 8)) (C := RX5) (T := TX5) (N := 18) hx hb hts (iT_X5_sheet_X5) hown hK hP 0 rfl rfl 9 (by decide) (hts (.fieldLink RX5 31 "WordSupperModel" "sizes" "[I") (by decide +kernel)) (fun _ h9 => h9) rfl dX5_sheet_77 ?_
            refine lv_iload_n hx hb dX5_sheet_80 rfl (lv_at hl 1 rfl) ?_
            refine lv_iload_n hx hb dX5_sheet_81 rfl (lv_at hl 2 rfl) ?_
            refine x_if_ne (tgt := 89) hx hb (by decide) dX5_sheet_82 (by decide) (fun c_82 => ?_) (fun c_82 => ?_)
            · exact absurd c_82 (by decide)
            · refine x_iconst hx hb dX5_sheet_85 ?_
              refine lv_goto (tgt := 90) hx hb dX5_sheet_86 (by decide) ?_
              refine x_iast hx hb hK hP hD hS 8 0 rfl rfl s1 rfl (by omega) (by decide) (wRo r ik tn j ++ (wA cI (r 1) 100 T ++ (wA cI (r 2) 100 K ++ (wA cI (r 3) 100 X ++ (wA cI (r 4) 100 Y ++ (wA cI (r 5) 8 (fR F) ++ (wA cI (r 6) 120 TB ++ (wA cI (r 7) 4 (bR (va_up SB s1 0)) ++ (wA cI (r 8) 4 (va_up SS s1 0) ++ (wA cI (r 9) 160 SN)))))))))) (by rw [← wA_up cI (r 8) 4 SS 0 s1 (by omega)]; rfl) dX5_sheet_90 (fun H locs hP hD hS => ?_)
              refine x_iconst hx hb dX5_sheet_91 ?_
              refine lv_istore (lv' := [(4, .int (iI 0)), (0, .ref (r 0)), (1, .int (iI ((s1 : Nat) : Int))), (2, .int (iI 0)), (3, .int (iI n))]) hx hb dX5_sheet_92 hl (by decide) rfl (fun ls hl => ?_)
              have L94 : ∀ (k t : Nat) (Nt : Nat → Int) (H : Heap) (locs : List Loc) (ls : Array Slot), t + k = 40 → (zeF (40 * s1) k t Nt = zeF (40 * s1) 40 0 SN) → va_P D vwCl (wRo r ik tn j ++ (wA cI (r 1) 100 T ++ (wA cI (r 2) 100 K ++ (wA cI (r 3) 100 X ++ (wA cI (r 4) 100 Y ++ (wA cI (r 5) 8 (fR F) ++ (wA cI (r 6) 120 TB ++ (wA cI (r 7) 4 (bR (va_up SB s1 0)) ++ (wA cI (r 8) 4 (va_up SS s1 0) ++ (wA cI (r 9) 160 Nt)))))))))) H → va_D A (wRo r ik tn j ++ (wA cI (r 1) 100 T ++ (wA cI (r 2) 100 K ++ (wA cI (r 3) 100 X ++ (wA cI (r 4) 100 Y ++ (wA cI (r 5) 8 (fR F) ++ (wA cI (r 6) 120 TB ++ (wA cI (r 7) 4 (bR (va_up SB s1 0)) ++ (wA cI (r 8) 4 (va_up SS s1 0) ++ (wA cI (r 9) 160 Nt)))))))))) → va_S A s.heap H locs → lv_has ls 5 [(0, .ref (r 0)), (1, .int (iI ((s1 : Nat) : Int))), (2, .int (iI 0)), (3, .int (iI n)), (4, .int (iI ((t : Nat) : Int)))] → W pg l e { frames := 1, cells := 0, slots := 0, locals := 21 } s m args below meth c H locs 0 0 Q (F0 m 94 ls []) := by
                intro k
                induction k with
                | zero =>
                  intro t Nt H locs ls hkt hr hP hD hS hl
                  refine lv_iload hx hb dX5_sheet_94 (lv_at hl 4 rfl) ?_
                  refine x_bipush hx hb dX5_sheet_96 (by decide) ?_
                  refine x_icmp_ge (tgt := 120) hx hb (by omega) (by decide) dX5_sheet_98 (by decide) (fun c_98 => ?_) (fun c_98 => ?_)
                  · refine lv_aload_n hx hb dX5_sheet_120 rfl (lv_at hl 0 rfl) ?_
                    refine va_get (D := D) (ci := 4) (v := .ref (r 8)) (C := RX5) (T := TX5) (N := 18) hx hb hts (iT_X5_sheet_X5) hown hK hP 0 rfl rfl 9 (by decide) (hts (.fieldLink RX5 31 "WordSupperModel" "sizes" "[I") (by decide +kernel)) (fun _ h9 => h9) rfl dX5_sheet_121 ?_
                    refine lv_iload_n hx hb dX5_sheet_124 rfl (lv_at hl 1 rfl) ?_
                    refine x_iald hx hb hK hP 8 0 rfl rfl s1 rfl (by omega) (by decide) ((va_up SS s1 0) s1) (gd_at _ (by omega)) dX5_sheet_125 ?_
                    exact kend (((va_up SS s1 0) s1, T, K, ik, (va_up SB s1 0), (va_up SS s1 0), Nt, tn, TB, F), X, Y, j) hP hS rfl (by unfold m_sheet; rw [if_neg (by omega), if_neg (by omega), if_neg (by omega), if_pos rfl, Int.toNat_natCast, ← hr, up_s] <;> rfl) dX5_sheet_126
                  · exfalso; omega
                | succ k ih =>
                  intro t Nt H locs ls hkt hr hP hD hS hl
                  refine lv_iload hx hb dX5_sheet_94 (lv_at hl 4 rfl) ?_
                  refine x_bipush hx hb dX5_sheet_96 (by decide) ?_
                  refine x_icmp_ge (tgt := 120) hx hb (by omega) (by decide) dX5_sheet_98 (by decide) (fun c_98 => ?_) (fun c_98 => ?_)
                  · exfalso; omega
                  · refine lv_aload_n hx hb dX5_sheet_101 rfl (lv_at hl 0 rfl) ?_
                    refine va_get (D := D) (ci := 4) (v := .ref (r 9)) (C := RX5) (T := TX5) (N := 18) hx hb hts (iT_X5_sheet_X5) hown hK hP 0 rfl rfl 10 (by decide) (hts (.fieldLink RX5 34 "WordSupperModel" "numbers" "[I") (by decide +kernel)) (fun _ h9 => h9) rfl dX5_sheet_102 ?_
                    refine x_bipush hx hb dX5_sheet_105 (by decide) ?_
                    refine lv_iload_n hx hb dX5_sheet_107 rfl (lv_at hl 1 rfl) ?_
                    refine x_imul hx hb dX5_sheet_108 ?_
                    refine x_topi ((40 * s1 : Nat) : Int) (by omega) ?_
                    refine lv_iload hx hb dX5_sheet_109 (lv_at hl 4 rfl) ?_
                    refine x_iadd hx hb dX5_sheet_111 ?_
                    refine x_topi (((40 * s1) + t : Nat) : Int) (by omega) ?_
                    refine x_iconst hx hb dX5_sheet_112 ?_
                    refine x_iast hx hb hK hP hD hS 9 0 rfl rfl ((40 * s1) + t) rfl (by omega) (by decide) (wRo r ik tn j ++ (wA cI (r 1) 100 T ++ (wA cI (r 2) 100 K ++ (wA cI (r 3) 100 X ++ (wA cI (r 4) 100 Y ++ (wA cI (r 5) 8 (fR F) ++ (wA cI (r 6) 120 TB ++ (wA cI (r 7) 4 (bR (va_up SB s1 0)) ++ (wA cI (r 8) 4 (va_up SS s1 0) ++ (wA cI (r 9) 160 (va_up Nt ((40 * s1) + t) 0))))))))))) (by rw [← wA_up cI (r 9) 160 Nt 0 ((40 * s1) + t) (by omega)]; rfl) dX5_sheet_113 (fun H locs hP hD hS => ?_)
                    refine x_iinc hx hb 4 ((t + 1 : Nat) : Int) (by omega) [(4, .int (iI ((t + 1 : Nat) : Int))), (0, .ref (r 0)), (1, .int (iI ((s1 : Nat) : Int))), (2, .int (iI 0)), (3, .int (iI n))] dX5_sheet_114 hl rfl (by decide) rfl (fun ls hl => ?_)
                    refine lv_goto (tgt := 94) hx hb dX5_sheet_117 (by decide) ?_
                    exact ih (t + 1) (va_up Nt ((40 * s1) + t) 0) _ _ _ (by omega) hr hP hD hS (lv_sub hl [1, 2, 3, 4, 0] rfl)
              exact L94 40 0 SN _ _ _ (by omega) rfl hP hD hS (lv_sub hl [1, 2, 3, 4, 0] rfl)
        · refine lv_aload_n hx hb dX5_sheet_54 rfl (lv_at hl 0 rfl) ?_
          refine x_ldc hx hb (-1000001) rfl hown (hts (.constant RX5 37 (-1000001)) (by decide +kernel)) dX5_sheet_55 ?_
          refine x_callV (As := [.int (iI (-1000001))]) (rest := []) ⟨hx, hb, hml, hown, hts⟩ (kX5_finds r ik tn j F (-1000001) 0 (by omega) (by omega)) (cwV 1 hts gX5_sheet_X5_finds rfl rfl rfl ykVX5_finds ⟨Nat.le_of_ble_eq_true rfl, Nat.le_of_ble_eq_true rfl⟩) hP hK hD hS 0 4 rfl rfl rfl [0, 5] rfl (by decide) (fun _ => rfl) (fun _ => wRo r ik tn j ++ (wA cI (r 1) 100 T ++ (wA cI (r 2) 100 K ++ (wA cI (r 3) 100 X ++ (wA cI (r 4) 100 Y ++ (wA cI (r 5) 8 (fR (bmp 0 F)) ++ (wA cI (r 6) 120 TB ++ (wA cI (r 7) 4 (bR SB) ++ (wA cI (r 8) 4 SS ++ (wA cI (r 9) 160 SN)))))))))) (fun _ => rfl) rfl hl.1 rfl (Nat.le_of_ble_eq_true rfl) dX5_sheet_57 ⟨Nat.le_of_ble_eq_true rfl, Nat.le_of_ble_eq_true rfl⟩ (fun _ H locs _ hP hD hS => ?_)
          refine W.eq (g2 := F0 m 60 ls [.int (iI (-1000001))]) rfl ?_
          exact kend (((-1000001), T, K, ik, SB, SS, SN, tn, TB, (bmp 0 F)), X, Y, j) hP hS rfl (by first | exact ((if_pos (by omega))).symm | exact (((if_neg (by omega)).trans ((if_neg (by omega)).trans (if_pos (by omega))))).symm) dX5_sheet_60
      · refine lv_aload_n hx hb dX5_sheet_40 rfl (lv_at hl 0 rfl) ?_
        refine x_ldcw hx hb (-1000007) rfl hown (hts (.constant RX5 281 (-1000007)) (by decide +kernel)) dX5_sheet_41 ?_
        refine x_callV (As := [.int (iI (-1000007))]) (rest := []) ⟨hx, hb, hml, hown, hts⟩ (kX5_finds r ik tn j F (-1000007) 6 (by omega) (by omega)) (cwV 1 hts gX5_sheet_X5_finds rfl rfl rfl ykVX5_finds ⟨Nat.le_of_ble_eq_true rfl, Nat.le_of_ble_eq_true rfl⟩) hP hK hD hS 0 4 rfl rfl rfl [0, 5] rfl (by decide) (fun _ => rfl) (fun _ => wRo r ik tn j ++ (wA cI (r 1) 100 T ++ (wA cI (r 2) 100 K ++ (wA cI (r 3) 100 X ++ (wA cI (r 4) 100 Y ++ (wA cI (r 5) 8 (fR (bmp 6 F)) ++ (wA cI (r 6) 120 TB ++ (wA cI (r 7) 4 (bR SB) ++ (wA cI (r 8) 4 SS ++ (wA cI (r 9) 160 SN)))))))))) (fun _ => rfl) rfl hl.1 rfl (Nat.le_of_ble_eq_true rfl) dX5_sheet_44 ⟨Nat.le_of_ble_eq_true rfl, Nat.le_of_ble_eq_true rfl⟩ (fun _ H locs _ hP hD hS => ?_)
        refine W.eq (g2 := F0 m 47 ls [.int (iI (-1000007))]) rfl ?_
        exact kend (((-1000007), T, K, ik, SB, SS, SN, tn, TB, (bmp 6 F)), X, Y, j) hP hS rfl (((if_neg (by omega)).trans (if_pos (by omega)))).symm dX5_sheet_47
    · refine lv_iload_n hx hb dX5_sheet_11 rfl (lv_at hl 2 rfl) ?_
      refine x_bipush hx hb dX5_sheet_12 (by decide) ?_
      refine x_icmp_eq (tgt := 36) hx hb (by omega) (by decide) dX5_sheet_14 (by decide) (fun c_14 => ?_) (fun c_14 => ?_)
      · refine lv_iload_n hx hb dX5_sheet_36 rfl (lv_at hl 3 rfl) ?_
        refine x_if_ge (tgt := 48) hx hb (by omega) dX5_sheet_37 (by decide) (fun c_37 => ?_) (fun c_37 => ?_)
        · refine lv_iload_n hx hb dX5_sheet_48 rfl (lv_at hl 3 rfl) ?_
          refine x_bipush hx hb dX5_sheet_49 (by decide) ?_
          refine x_icmp_le (tgt := 61) hx hb (by omega) (by decide) dX5_sheet_51 (by decide) (fun c_51 => ?_) (fun c_51 => ?_)
          · obtain ⟨s1, rfl⟩ : ∃ s1 : Nat, s0 = (s1 : Int) := ⟨s0.toNat, by omega⟩
            refine lv_aload_n hx hb dX5_sheet_61 rfl (lv_at hl 0 rfl) ?_
            refine va_get (D := D) (ci := 4) (v := .ref (r 7)) (C := RX5) (T := TX5) (N := 18) hx hb hts (iT_X5_sheet_X5) hown hK hP 0 rfl rfl 8 (by decide) (hts (.fieldLink RX5 28 "WordSupperModel" "bitsOf" "[I") (by decide +kernel)) (fun _ h9 => h9) rfl dX5_sheet_62 ?_
            refine lv_iload_n hx hb dX5_sheet_65 rfl (lv_at hl 1 rfl) ?_
            refine lv_iload_n hx hb dX5_sheet_66 rfl (lv_at hl 2 rfl) ?_
            refine x_if_ne (tgt := 74) hx hb (by omega) dX5_sheet_67 (by decide) (fun c_67 => ?_) (fun c_67 => ?_)
            · refine lv_iload_n hx hb dX5_sheet_74 rfl (lv_at hl 2 rfl) ?_
              refine x_iast hx hb hK hP hD hS 7 0 rfl rfl s1 rfl (by omega) (by decide) (wRo r ik tn j ++ (wA cI (r 1) 100 T ++ (wA cI (r 2) 100 K ++ (wA cI (r 3) 100 X ++ (wA cI (r 4) 100 Y ++ (wA cI (r 5) 8 (fR F) ++ (wA cI (r 6) 120 TB ++ (wA cI (r 7) 4 (va_up (bR SB) s1 bt) ++ (wA cI (r 8) 4 SS ++ (wA cI (r 9) 160 SN)))))))))) (by rw [← wA_up cI (r 7) 4 (bR SB) bt s1 (by omega)]; rfl) dX5_sheet_75 (fun H locs hP hD hS => ?_)
              rw [bR_up1 _ _ (show bt ≠ 0 by omega)] at hP hD
              refine lv_aload_n hx hb dX5_sheet_76 rfl (lv_at hl 0 rfl) ?_
              refine va_get (D := D) (ci := 4) (v := .ref (r 8)) (C := RX5) (T := TX5) (N := 18) hx hb hts (iT_X5_sheet_X5) hown hK hP 0 rfl rfl 9 (by decide) (hts (.fieldLink RX5 31 "WordSupperModel" "sizes" "[I") (by decide +kernel)) (fun _ h9 => h9) rfl dX5_sheet_77 ?_
              refine lv_iload_n hx hb dX5_sheet_80 rfl (lv_at hl 1 rfl) ?_
              refine lv_iload_n hx hb dX5_sheet_81 rfl (lv_at hl 2 rfl) ?_
              refine x_if_ne (tgt := 89) hx hb (by omega) dX5_sheet_82 (by decide) (fun c_82 => ?_) (fun c_82 => ?_)
              · refine lv_iload_n hx hb dX5_sheet_89 rfl (lv_at hl 3 rfl) ?_
                refine x_iast hx hb hK hP hD hS 8 0 rfl rfl s1 rfl (by omega) (by decide) (wRo r ik tn j ++ (wA cI (r 1) 100 T ++ (wA cI (r 2) 100 K ++ (wA cI (r 3) 100 X ++ (wA cI (r 4) 100 Y ++ (wA cI (r 5) 8 (fR F) ++ (wA cI (r 6) 120 TB ++ (wA cI (r 7) 4 (bR (va_up SB s1 bt)) ++ (wA cI (r 8) 4 (va_up SS s1 n) ++ (wA cI (r 9) 160 SN)))))))))) (by rw [← wA_up cI (r 8) 4 SS n s1 (by omega)]; rfl) dX5_sheet_90 (fun H locs hP hD hS => ?_)
                refine x_iconst hx hb dX5_sheet_91 ?_
                refine lv_istore (lv' := [(4, .int (iI 0)), (0, .ref (r 0)), (1, .int (iI ((s1 : Nat) : Int))), (2, .int (iI bt)), (3, .int (iI n))]) hx hb dX5_sheet_92 hl (by decide) rfl (fun ls hl => ?_)
                have L94 : ∀ (k t : Nat) (Nt : Nat → Int) (H : Heap) (locs : List Loc) (ls : Array Slot), t + k = 40 → (zeF (40 * s1) k t Nt = zeF (40 * s1) 40 0 SN) → va_P D vwCl (wRo r ik tn j ++ (wA cI (r 1) 100 T ++ (wA cI (r 2) 100 K ++ (wA cI (r 3) 100 X ++ (wA cI (r 4) 100 Y ++ (wA cI (r 5) 8 (fR F) ++ (wA cI (r 6) 120 TB ++ (wA cI (r 7) 4 (bR (va_up SB s1 bt)) ++ (wA cI (r 8) 4 (va_up SS s1 n) ++ (wA cI (r 9) 160 Nt)))))))))) H → va_D A (wRo r ik tn j ++ (wA cI (r 1) 100 T ++ (wA cI (r 2) 100 K ++ (wA cI (r 3) 100 X ++ (wA cI (r 4) 100 Y ++ (wA cI (r 5) 8 (fR F) ++ (wA cI (r 6) 120 TB ++ (wA cI (r 7) 4 (bR (va_up SB s1 bt)) ++ (wA cI (r 8) 4 (va_up SS s1 n) ++ (wA cI (r 9) 160 Nt)))))))))) → va_S A s.heap H locs → lv_has ls 5 [(0, .ref (r 0)), (1, .int (iI ((s1 : Nat) : Int))), (2, .int (iI bt)), (3, .int (iI n)), (4, .int (iI ((t : Nat) : Int)))] → W pg l e { frames := 1, cells := 0, slots := 0, locals := 21 } s m args below meth c H locs 0 0 Q (F0 m 94 ls []) := by
                  intro k
                  induction k with
                  | zero =>
                    intro t Nt H locs ls hkt hr hP hD hS hl
                    refine lv_iload hx hb dX5_sheet_94 (lv_at hl 4 rfl) ?_
                    refine x_bipush hx hb dX5_sheet_96 (by decide) ?_
                    refine x_icmp_ge (tgt := 120) hx hb (by omega) (by decide) dX5_sheet_98 (by decide) (fun c_98 => ?_) (fun c_98 => ?_)
                    · refine lv_aload_n hx hb dX5_sheet_120 rfl (lv_at hl 0 rfl) ?_
                      refine va_get (D := D) (ci := 4) (v := .ref (r 8)) (C := RX5) (T := TX5) (N := 18) hx hb hts (iT_X5_sheet_X5) hown hK hP 0 rfl rfl 9 (by decide) (hts (.fieldLink RX5 31 "WordSupperModel" "sizes" "[I") (by decide +kernel)) (fun _ h9 => h9) rfl dX5_sheet_121 ?_
                      refine lv_iload_n hx hb dX5_sheet_124 rfl (lv_at hl 1 rfl) ?_
                      refine x_iald hx hb hK hP 8 0 rfl rfl s1 rfl (by omega) (by decide) ((va_up SS s1 n) s1) (gd_at _ (by omega)) dX5_sheet_125 ?_
                      exact kend (((va_up SS s1 n) s1, T, K, ik, (va_up SB s1 bt), (va_up SS s1 n), Nt, tn, TB, F), X, Y, j) hP hS rfl (by unfold m_sheet; rw [if_neg (by omega), if_neg (by omega), if_neg (by omega), if_neg (by omega), Int.toNat_natCast, ← hr, up_s] <;> rfl) dX5_sheet_126
                    · exfalso; omega
                  | succ k ih =>
                    intro t Nt H locs ls hkt hr hP hD hS hl
                    refine lv_iload hx hb dX5_sheet_94 (lv_at hl 4 rfl) ?_
                    refine x_bipush hx hb dX5_sheet_96 (by decide) ?_
                    refine x_icmp_ge (tgt := 120) hx hb (by omega) (by decide) dX5_sheet_98 (by decide) (fun c_98 => ?_) (fun c_98 => ?_)
                    · exfalso; omega
                    · refine lv_aload_n hx hb dX5_sheet_101 rfl (lv_at hl 0 rfl) ?_
                      refine va_get (D := D) (ci := 4) (v := .ref (r 9)) (C := RX5) (T := TX5) (N := 18) hx hb hts (iT_X5_sheet_X5) hown hK hP 0 rfl rfl 10 (by decide) (hts (.fieldLink RX5 34 "WordSupperModel" "numbers" "[I") (by decide +kernel)) (fun _ h9 => h9) rfl dX5_sheet_102 ?_
                      refine x_bipush hx hb dX5_sheet_105 (by decide) ?_
                      refine lv_iload_n hx hb dX5_sheet_107 rfl (lv_at hl 1 rfl) ?_
                      refine x_imul hx hb dX5_sheet_108 ?_
                      refine x_topi ((40 * s1 : Nat) : Int) (by omega) ?_
                      refine lv_iload hx hb dX5_sheet_109 (lv_at hl 4 rfl) ?_
                      refine x_iadd hx hb dX5_sheet_111 ?_
                      refine x_topi (((40 * s1) + t : Nat) : Int) (by omega) ?_
                      refine x_iconst hx hb dX5_sheet_112 ?_
                      refine x_iast hx hb hK hP hD hS 9 0 rfl rfl ((40 * s1) + t) rfl (by omega) (by decide) (wRo r ik tn j ++ (wA cI (r 1) 100 T ++ (wA cI (r 2) 100 K ++ (wA cI (r 3) 100 X ++ (wA cI (r 4) 100 Y ++ (wA cI (r 5) 8 (fR F) ++ (wA cI (r 6) 120 TB ++ (wA cI (r 7) 4 (bR (va_up SB s1 bt)) ++ (wA cI (r 8) 4 (va_up SS s1 n) ++ (wA cI (r 9) 160 (va_up Nt ((40 * s1) + t) 0))))))))))) (by rw [← wA_up cI (r 9) 160 Nt 0 ((40 * s1) + t) (by omega)]; rfl) dX5_sheet_113 (fun H locs hP hD hS => ?_)
                      refine x_iinc hx hb 4 ((t + 1 : Nat) : Int) (by omega) [(4, .int (iI ((t + 1 : Nat) : Int))), (0, .ref (r 0)), (1, .int (iI ((s1 : Nat) : Int))), (2, .int (iI bt)), (3, .int (iI n))] dX5_sheet_114 hl rfl (by decide) rfl (fun ls hl => ?_)
                      refine lv_goto (tgt := 94) hx hb dX5_sheet_117 (by decide) ?_
                      exact ih (t + 1) (va_up Nt ((40 * s1) + t) 0) _ _ _ (by omega) hr hP hD hS (lv_sub hl [1, 2, 3, 4, 0] rfl)
                exact L94 40 0 SN _ _ _ (by omega) rfl hP hD hS (lv_sub hl [1, 2, 3, 4, 0] rfl)
              · refine x_iconst hx hb dX5_sheet_85 ?_
                refine lv_goto (tgt := 90) hx hb dX5_sheet_86 (by decide) ?_
                refine x_iast hx hb hK hP hD hS 8 0 rfl rfl s1 rfl (by omega) (by decide) (wRo r ik tn j ++ (wA cI (r 1) 100 T ++ (wA cI (r 2) 100 K ++ (wA cI (r 3) 100 X ++ (wA cI (r 4) 100 Y ++ (wA cI (r 5) 8 (fR F) ++ (wA cI (r 6) 120 TB ++ (wA cI (r 7) 4 (bR (va_up SB s1 bt)) ++ (wA cI (r 8) 4 (va_up SS s1 0) ++ (wA cI (r 9) 160 SN)))))))))) (by rw [← wA_up cI (r 8) 4 SS 0 s1 (by omega)]; rfl) dX5_sheet_90 (fun H locs hP hD hS => ?_)
                refine x_iconst hx hb dX5_sheet_91 ?_
                refine lv_istore (lv' := [(4, .int (iI 0)), (0, .ref (r 0)), (1, .int (iI ((s1 : Nat) : Int))), (2, .int (iI bt)), (3, .int (iI n))]) hx hb dX5_sheet_92 hl (by decide) rfl (fun ls hl => ?_)
                have L94 : ∀ (k t : Nat) (Nt : Nat → Int) (H : Heap) (locs : List Loc) (ls : Array Slot), t + k = 40 → (zeF (40 * s1) k t Nt = zeF (40 * s1) 40 0 SN) → va_P D vwCl (wRo r ik tn j ++ (wA cI (r 1) 100 T ++ (wA cI (r 2) 100 K ++ (wA cI (r 3) 100 X ++ (wA cI (r 4) 100 Y ++ (wA cI (r 5) 8 (fR F) ++ (wA cI (r 6) 120 TB ++ (wA cI (r 7) 4 (bR (va_up SB s1 bt)) ++ (wA cI (r 8) 4 (va_up SS s1 0) ++ (wA cI (r 9) 160 Nt)))))))))) H → va_D A (wRo r ik tn j ++ (wA cI (r 1) 100 T ++ (wA cI (r 2) 100 K ++ (wA cI (r 3) 100 X ++ (wA cI (r 4) 100 Y ++ (wA cI (r 5) 8 (fR F) ++ (wA cI (r 6) 120 TB ++ (wA cI (r 7) 4 (bR (va_up SB s1 bt)) ++ (wA cI (r 8) 4 (va_up SS s1 0) ++ (wA cI (r 9) 160 Nt)))))))))) → va_S A s.heap H locs → lv_has ls 5 [(0, .ref (r 0)), (1, .int (iI ((s1 : Nat) : Int))), (2, .int (iI bt)), (3, .int (iI n)), (4, .int (iI ((t : Nat) : Int)))] → W pg l e { frames := 1, cells := 0, slots := 0, locals := 21 } s m args below meth c H locs 0 0 Q (F0 m 94 ls []) := by
                  intro k
                  induction k with
                  | zero =>
                    intro t Nt H locs ls hkt hr hP hD hS hl
                    refine lv_iload hx hb dX5_sheet_94 (lv_at hl 4 rfl) ?_
                    refine x_bipush hx hb dX5_sheet_96 (by decide) ?_
                    refine x_icmp_ge (tgt := 120) hx hb (by omega) (by decide) dX5_sheet_98 (by decide) (fun c_98 => ?_) (fun c_98 => ?_)
                    · refine lv_aload_n hx hb dX5_sheet_120 rfl (lv_at hl 0 rfl) ?_
                      refine va_get (D := D) (ci := 4) (v := .ref (r 8)) (C := RX5) (T := TX5) (N := 18) hx hb hts (iT_X5_sheet_X5) hown hK hP 0 rfl rfl 9 (by decide) (hts (.fieldLink RX5 31 "WordSupperModel" "sizes" "[I") (by decide +kernel)) (fun _ h9 => h9) rfl dX5_sheet_121 ?_
                      refine lv_iload_n hx hb dX5_sheet_124 rfl (lv_at hl 1 rfl) ?_
                      refine x_iald hx hb hK hP 8 0 rfl rfl s1 rfl (by omega) (by decide) ((va_up SS s1 0) s1) (gd_at _ (by omega)) dX5_sheet_125 ?_
                      exact kend (((va_up SS s1 0) s1, T, K, ik, (va_up SB s1 bt), (va_up SS s1 0), Nt, tn, TB, F), X, Y, j) hP hS rfl (by exfalso; omega) dX5_sheet_126
                    · exfalso; omega
                  | succ k ih =>
                    intro t Nt H locs ls hkt hr hP hD hS hl
                    refine lv_iload hx hb dX5_sheet_94 (lv_at hl 4 rfl) ?_
                    refine x_bipush hx hb dX5_sheet_96 (by decide) ?_
                    refine x_icmp_ge (tgt := 120) hx hb (by omega) (by decide) dX5_sheet_98 (by decide) (fun c_98 => ?_) (fun c_98 => ?_)
                    · exfalso; omega
                    · refine lv_aload_n hx hb dX5_sheet_101 rfl (lv_at hl 0 rfl) ?_
                      refine va_get (D := D) (ci := 4) (v := .ref (r 9)) (C := RX5) (T := TX5) (N := 18) hx hb hts (iT_X5_sheet_X5) hown hK hP 0 rfl rfl 10 (by decide) (hts (.fieldLink RX5 34 "WordSupperModel" "numbers" "[I") (by decide +kernel)) (fun _ h9 => h9) rfl dX5_sheet_102 ?_
                      refine x_bipush hx hb dX5_sheet_105 (by decide) ?_
                      refine lv_iload_n hx hb dX5_sheet_107 rfl (lv_at hl 1 rfl) ?_
                      refine x_imul hx hb dX5_sheet_108 ?_
                      refine x_topi ((40 * s1 : Nat) : Int) (by omega) ?_
                      refine lv_iload hx hb dX5_sheet_109 (lv_at hl 4 rfl) ?_
                      refine x_iadd hx hb dX5_sheet_111 ?_
                      refine x_topi (((40 * s1) + t : Nat) : Int) (by omega) ?_
                      refine x_iconst hx hb dX5_sheet_112 ?_
                      refine x_iast hx hb hK hP hD hS 9 0 rfl rfl ((40 * s1) + t) rfl (by omega) (by decide) (wRo r ik tn j ++ (wA cI (r 1) 100 T ++ (wA cI (r 2) 100 K ++ (wA cI (r 3) 100 X ++ (wA cI (r 4) 100 Y ++ (wA cI (r 5) 8 (fR F) ++ (wA cI (r 6) 120 TB ++ (wA cI (r 7) 4 (bR (va_up SB s1 bt)) ++ (wA cI (r 8) 4 (va_up SS s1 0) ++ (wA cI (r 9) 160 (va_up Nt ((40 * s1) + t) 0))))))))))) (by rw [← wA_up cI (r 9) 160 Nt 0 ((40 * s1) + t) (by omega)]; rfl) dX5_sheet_113 (fun H locs hP hD hS => ?_)
                      refine x_iinc hx hb 4 ((t + 1 : Nat) : Int) (by omega) [(4, .int (iI ((t + 1 : Nat) : Int))), (0, .ref (r 0)), (1, .int (iI ((s1 : Nat) : Int))), (2, .int (iI bt)), (3, .int (iI n))] dX5_sheet_114 hl rfl (by decide) rfl (fun ls hl => ?_)
                      refine lv_goto (tgt := 94) hx hb dX5_sheet_117 (by decide) ?_
                      exact ih (t + 1) (va_up Nt ((40 * s1) + t) 0) _ _ _ (by omega) hr hP hD hS (lv_sub hl [1, 2, 3, 4, 0] rfl)
                exact L94 40 0 SN _ _ _ (by omega) rfl hP hD hS (lv_sub hl [1, 2, 3, 4, 0] rfl)
            · obtain rfl : bt = 0 := by omega
              refine x_iconst hx hb dX5_sheet_70 ?_
              refine lv_goto (tgt := 75) hx hb dX5_sheet_71 (by decide) ?_
              refine x_iast hx hb hK hP hD hS 7 0 rfl rfl s1 rfl (by omega) (by decide) (wRo r ik tn j ++ (wA cI (r 1) 100 T ++ (wA cI (r 2) 100 K ++ (wA cI (r 3) 100 X ++ (wA cI (r 4) 100 Y ++ (wA cI (r 5) 8 (fR F) ++ (wA cI (r 6) 120 TB ++ (wA cI (r 7) 4 (va_up (bR SB) s1 (-1)) ++ (wA cI (r 8) 4 SS ++ (wA cI (r 9) 160 SN)))))))))) (by rw [← wA_up cI (r 7) 4 (bR SB) (-1) s1 (by omega)]; rfl) dX5_sheet_75 (fun H locs hP hD hS => ?_)
              rw [bR_up0] at hP hD
              refine lv_aload_n hx hb dX5_sheet_76 rfl (lv_at hl 0 rfl) ?_
              refine va_get (D := D) (ci := 4) (v := .ref (r 8)) (C := RX5) (T := TX5) (N := 18) hx hb hts (iT_X5_sheet_X5) hown hK hP 0 rfl rfl 9 (by decide) (hts (.fieldLink RX5 31 "WordSupperModel" "sizes" "[I") (by decide +kernel)) (fun _ h9 => h9) rfl dX5_sheet_77 ?_
              refine lv_iload_n hx hb dX5_sheet_80 rfl (lv_at hl 1 rfl) ?_
              refine lv_iload_n hx hb dX5_sheet_81 rfl (lv_at hl 2 rfl) ?_
              refine x_if_ne (tgt := 89) hx hb (by decide) dX5_sheet_82 (by decide) (fun c_82 => ?_) (fun c_82 => ?_)
              · exact absurd c_82 (by decide)
              · refine x_iconst hx hb dX5_sheet_85 ?_
                refine lv_goto (tgt := 90) hx hb dX5_sheet_86 (by decide) ?_
                refine x_iast hx hb hK hP hD hS 8 0 rfl rfl s1 rfl (by omega) (by decide) (wRo r ik tn j ++ (wA cI (r 1) 100 T ++ (wA cI (r 2) 100 K ++ (wA cI (r 3) 100 X ++ (wA cI (r 4) 100 Y ++ (wA cI (r 5) 8 (fR F) ++ (wA cI (r 6) 120 TB ++ (wA cI (r 7) 4 (bR (va_up SB s1 0)) ++ (wA cI (r 8) 4 (va_up SS s1 0) ++ (wA cI (r 9) 160 SN)))))))))) (by rw [← wA_up cI (r 8) 4 SS 0 s1 (by omega)]; rfl) dX5_sheet_90 (fun H locs hP hD hS => ?_)
                refine x_iconst hx hb dX5_sheet_91 ?_
                refine lv_istore (lv' := [(4, .int (iI 0)), (0, .ref (r 0)), (1, .int (iI ((s1 : Nat) : Int))), (2, .int (iI 0)), (3, .int (iI n))]) hx hb dX5_sheet_92 hl (by decide) rfl (fun ls hl => ?_)
                have L94 : ∀ (k t : Nat) (Nt : Nat → Int) (H : Heap) (locs : List Loc) (ls : Array Slot), t + k = 40 → (zeF (40 * s1) k t Nt = zeF (40 * s1) 40 0 SN) → va_P D vwCl (wRo r ik tn j ++ (wA cI (r 1) 100 T ++ (wA cI (r 2) 100 K ++ (wA cI (r 3) 100 X ++ (wA cI (r 4) 100 Y ++ (wA cI (r 5) 8 (fR F) ++ (wA cI (r 6) 120 TB ++ (wA cI (r 7) 4 (bR (va_up SB s1 0)) ++ (wA cI (r 8) 4 (va_up SS s1 0) ++ (wA cI (r 9) 160 Nt)))))))))) H → va_D A (wRo r ik tn j ++ (wA cI (r 1) 100 T ++ (wA cI (r 2) 100 K ++ (wA cI (r 3) 100 X ++ (wA cI (r 4) 100 Y ++ (wA cI (r 5) 8 (fR F) ++ (wA cI (r 6) 120 TB ++ (wA cI (r 7) 4 (bR (va_up SB s1 0)) ++ (wA cI (r 8) 4 (va_up SS s1 0) ++ (wA cI (r 9) 160 Nt)))))))))) → va_S A s.heap H locs → lv_has ls 5 [(0, .ref (r 0)), (1, .int (iI ((s1 : Nat) : Int))), (2, .int (iI 0)), (3, .int (iI n)), (4, .int (iI ((t : Nat) : Int)))] → W pg l e { frames := 1, cells := 0, slots := 0, locals := 21 } s m args below meth c H locs 0 0 Q (F0 m 94 ls []) := by
                  intro k
                  induction k with
                  | zero =>
                    intro t Nt H locs ls hkt hr hP hD hS hl
                    refine lv_iload hx hb dX5_sheet_94 (lv_at hl 4 rfl) ?_
                    refine x_bipush hx hb dX5_sheet_96 (by decide) ?_
                    refine x_icmp_ge (tgt := 120) hx hb (by omega) (by decide) dX5_sheet_98 (by decide) (fun c_98 => ?_) (fun c_98 => ?_)
                    · refine lv_aload_n hx hb dX5_sheet_120 rfl (lv_at hl 0 rfl) ?_
                      refine va_get (D := D) (ci := 4) (v := .ref (r 8)) (C := RX5) (T := TX5) (N := 18) hx hb hts (iT_X5_sheet_X5) hown hK hP 0 rfl rfl 9 (by decide) (hts (.fieldLink RX5 31 "WordSupperModel" "sizes" "[I") (by decide +kernel)) (fun _ h9 => h9) rfl dX5_sheet_121 ?_
                      refine lv_iload_n hx hb dX5_sheet_124 rfl (lv_at hl 1 rfl) ?_
                      refine x_iald hx hb hK hP 8 0 rfl rfl s1 rfl (by omega) (by decide) ((va_up SS s1 0) s1) (gd_at _ (by omega)) dX5_sheet_125 ?_
                      exact kend (((va_up SS s1 0) s1, T, K, ik, (va_up SB s1 0), (va_up SS s1 0), Nt, tn, TB, F), X, Y, j) hP hS rfl (by unfold m_sheet; rw [if_neg (by omega), if_neg (by omega), if_neg (by omega), if_pos rfl, Int.toNat_natCast, ← hr, up_s] <;> rfl) dX5_sheet_126
                    · exfalso; omega
                  | succ k ih =>
                    intro t Nt H locs ls hkt hr hP hD hS hl
                    refine lv_iload hx hb dX5_sheet_94 (lv_at hl 4 rfl) ?_
                    refine x_bipush hx hb dX5_sheet_96 (by decide) ?_
                    refine x_icmp_ge (tgt := 120) hx hb (by omega) (by decide) dX5_sheet_98 (by decide) (fun c_98 => ?_) (fun c_98 => ?_)
                    · exfalso; omega
                    · refine lv_aload_n hx hb dX5_sheet_101 rfl (lv_at hl 0 rfl) ?_
                      refine va_get (D := D) (ci := 4) (v := .ref (r 9)) (C := RX5) (T := TX5) (N := 18) hx hb hts (iT_X5_sheet_X5) hown hK hP 0 rfl rfl 10 (by decide) (hts (.fieldLink RX5 34 "WordSupperModel" "numbers" "[I") (by decide +kernel)) (fun _ h9 => h9) rfl dX5_sheet_102 ?_
                      refine x_bipush hx hb dX5_sheet_105 (by decide) ?_
                      refine lv_iload_n hx hb dX5_sheet_107 rfl (lv_at hl 1 rfl) ?_
                      refine x_imul hx hb dX5_sheet_108 ?_
                      refine x_topi ((40 * s1 : Nat) : Int) (by omega) ?_
                      refine lv_iload hx hb dX5_sheet_109 (lv_at hl 4 rfl) ?_
                      refine x_iadd hx hb dX5_sheet_111 ?_
                      refine x_topi (((40 * s1) + t : Nat) : Int) (by omega) ?_
                      refine x_iconst hx hb dX5_sheet_112 ?_
                      refine x_iast hx hb hK hP hD hS 9 0 rfl rfl ((40 * s1) + t) rfl (by omega) (by decide) (wRo r ik tn j ++ (wA cI (r 1) 100 T ++ (wA cI (r 2) 100 K ++ (wA cI (r 3) 100 X ++ (wA cI (r 4) 100 Y ++ (wA cI (r 5) 8 (fR F) ++ (wA cI (r 6) 120 TB ++ (wA cI (r 7) 4 (bR (va_up SB s1 0)) ++ (wA cI (r 8) 4 (va_up SS s1 0) ++ (wA cI (r 9) 160 (va_up Nt ((40 * s1) + t) 0))))))))))) (by rw [← wA_up cI (r 9) 160 Nt 0 ((40 * s1) + t) (by omega)]; rfl) dX5_sheet_113 (fun H locs hP hD hS => ?_)
                      refine x_iinc hx hb 4 ((t + 1 : Nat) : Int) (by omega) [(4, .int (iI ((t + 1 : Nat) : Int))), (0, .ref (r 0)), (1, .int (iI ((s1 : Nat) : Int))), (2, .int (iI 0)), (3, .int (iI n))] dX5_sheet_114 hl rfl (by decide) rfl (fun ls hl => ?_)
                      refine lv_goto (tgt := 94) hx hb dX5_sheet_117 (by decide) ?_
                      exact ih (t + 1) (va_up Nt ((40 * s1) + t) 0) _ _ _ (by omega) hr hP hD hS (lv_sub hl [1, 2, 3, 4, 0] rfl)
                exact L94 40 0 SN _ _ _ (by omega) rfl hP hD hS (lv_sub hl [1, 2, 3, 4, 0] rfl)
          · refine lv_aload_n hx hb dX5_sheet_54 rfl (lv_at hl 0 rfl) ?_
            refine x_ldc hx hb (-1000001) rfl hown (hts (.constant RX5 37 (-1000001)) (by decide +kernel)) dX5_sheet_55 ?_
            refine x_callV (As := [.int (iI (-1000001))]) (rest := []) ⟨hx, hb, hml, hown, hts⟩ (kX5_finds r ik tn j F (-1000001) 0 (by omega) (by omega)) (cwV 1 hts gX5_sheet_X5_finds rfl rfl rfl ykVX5_finds ⟨Nat.le_of_ble_eq_true rfl, Nat.le_of_ble_eq_true rfl⟩) hP hK hD hS 0 4 rfl rfl rfl [0, 5] rfl (by decide) (fun _ => rfl) (fun _ => wRo r ik tn j ++ (wA cI (r 1) 100 T ++ (wA cI (r 2) 100 K ++ (wA cI (r 3) 100 X ++ (wA cI (r 4) 100 Y ++ (wA cI (r 5) 8 (fR (bmp 0 F)) ++ (wA cI (r 6) 120 TB ++ (wA cI (r 7) 4 (bR SB) ++ (wA cI (r 8) 4 SS ++ (wA cI (r 9) 160 SN)))))))))) (fun _ => rfl) rfl hl.1 rfl (Nat.le_of_ble_eq_true rfl) dX5_sheet_57 ⟨Nat.le_of_ble_eq_true rfl, Nat.le_of_ble_eq_true rfl⟩ (fun _ H locs _ hP hD hS => ?_)
            refine W.eq (g2 := F0 m 60 ls [.int (iI (-1000001))]) rfl ?_
            exact kend (((-1000001), T, K, ik, SB, SS, SN, tn, TB, (bmp 0 F)), X, Y, j) hP hS rfl (by first | exact ((if_pos (by omega))).symm | exact (((if_neg (by omega)).trans ((if_neg (by omega)).trans (if_pos (by omega))))).symm) dX5_sheet_60
        · refine lv_aload_n hx hb dX5_sheet_40 rfl (lv_at hl 0 rfl) ?_
          refine x_ldcw hx hb (-1000007) rfl hown (hts (.constant RX5 281 (-1000007)) (by decide +kernel)) dX5_sheet_41 ?_
          refine x_callV (As := [.int (iI (-1000007))]) (rest := []) ⟨hx, hb, hml, hown, hts⟩ (kX5_finds r ik tn j F (-1000007) 6 (by omega) (by omega)) (cwV 1 hts gX5_sheet_X5_finds rfl rfl rfl ykVX5_finds ⟨Nat.le_of_ble_eq_true rfl, Nat.le_of_ble_eq_true rfl⟩) hP hK hD hS 0 4 rfl rfl rfl [0, 5] rfl (by decide) (fun _ => rfl) (fun _ => wRo r ik tn j ++ (wA cI (r 1) 100 T ++ (wA cI (r 2) 100 K ++ (wA cI (r 3) 100 X ++ (wA cI (r 4) 100 Y ++ (wA cI (r 5) 8 (fR (bmp 6 F)) ++ (wA cI (r 6) 120 TB ++ (wA cI (r 7) 4 (bR SB) ++ (wA cI (r 8) 4 SS ++ (wA cI (r 9) 160 SN)))))))))) (fun _ => rfl) rfl hl.1 rfl (Nat.le_of_ble_eq_true rfl) dX5_sheet_44 ⟨Nat.le_of_ble_eq_true rfl, Nat.le_of_ble_eq_true rfl⟩ (fun _ H locs _ hP hD hS => ?_)
          refine W.eq (g2 := F0 m 47 ls [.int (iI (-1000007))]) rfl ?_
          exact kend (((-1000007), T, K, ik, SB, SS, SN, tn, TB, (bmp 6 F)), X, Y, j) hP hS rfl (((if_neg (by omega)).trans (if_pos (by omega)))).symm dX5_sheet_47
      · refine lv_iload_n hx hb dX5_sheet_17 rfl (lv_at hl 2 rfl) ?_
        refine x_bipush hx hb dX5_sheet_18 (by decide) ?_
        refine x_icmp_eq (tgt := 36) hx hb (by omega) (by decide) dX5_sheet_20 (by decide) (fun c_20 => ?_) (fun c_20 => ?_)
        · refine lv_iload_n hx hb dX5_sheet_36 rfl (lv_at hl 3 rfl) ?_
          refine x_if_ge (tgt := 48) hx hb (by omega) dX5_sheet_37 (by decide) (fun c_37 => ?_) (fun c_37 => ?_)
          · refine lv_iload_n hx hb dX5_sheet_48 rfl (lv_at hl 3 rfl) ?_
            refine x_bipush hx hb dX5_sheet_49 (by decide) ?_
            refine x_icmp_le (tgt := 61) hx hb (by omega) (by decide) dX5_sheet_51 (by decide) (fun c_51 => ?_) (fun c_51 => ?_)
            · obtain ⟨s1, rfl⟩ : ∃ s1 : Nat, s0 = (s1 : Int) := ⟨s0.toNat, by omega⟩
              refine lv_aload_n hx hb dX5_sheet_61 rfl (lv_at hl 0 rfl) ?_
              refine va_get (D := D) (ci := 4) (v := .ref (r 7)) (C := RX5) (T := TX5) (N := 18) hx hb hts (iT_X5_sheet_X5) hown hK hP 0 rfl rfl 8 (by decide) (hts (.fieldLink RX5 28 "WordSupperModel" "bitsOf" "[I") (by decide +kernel)) (fun _ h9 => h9) rfl dX5_sheet_62 ?_
              refine lv_iload_n hx hb dX5_sheet_65 rfl (lv_at hl 1 rfl) ?_
              refine lv_iload_n hx hb dX5_sheet_66 rfl (lv_at hl 2 rfl) ?_
              refine x_if_ne (tgt := 74) hx hb (by omega) dX5_sheet_67 (by decide) (fun c_67 => ?_) (fun c_67 => ?_)
              · refine lv_iload_n hx hb dX5_sheet_74 rfl (lv_at hl 2 rfl) ?_
                refine x_iast hx hb hK hP hD hS 7 0 rfl rfl s1 rfl (by omega) (by decide) (wRo r ik tn j ++ (wA cI (r 1) 100 T ++ (wA cI (r 2) 100 K ++ (wA cI (r 3) 100 X ++ (wA cI (r 4) 100 Y ++ (wA cI (r 5) 8 (fR F) ++ (wA cI (r 6) 120 TB ++ (wA cI (r 7) 4 (va_up (bR SB) s1 bt) ++ (wA cI (r 8) 4 SS ++ (wA cI (r 9) 160 SN)))))))))) (by rw [← wA_up cI (r 7) 4 (bR SB) bt s1 (by omega)]; rfl) dX5_sheet_75 (fun H locs hP hD hS => ?_)
                rw [bR_up1 _ _ (show bt ≠ 0 by omega)] at hP hD
                refine lv_aload_n hx hb dX5_sheet_76 rfl (lv_at hl 0 rfl) ?_
                refine va_get (D := D) (ci := 4) (v := .ref (r 8)) (C := RX5) (T := TX5) (N := 18) hx hb hts (iT_X5_sheet_X5) hown hK hP 0 rfl rfl 9 (by decide) (hts (.fieldLink RX5 31 "WordSupperModel" "sizes" "[I") (by decide +kernel)) (fun _ h9 => h9) rfl dX5_sheet_77 ?_
                refine lv_iload_n hx hb dX5_sheet_80 rfl (lv_at hl 1 rfl) ?_
                refine lv_iload_n hx hb dX5_sheet_81 rfl (lv_at hl 2 rfl) ?_
                refine x_if_ne (tgt := 89) hx hb (by omega) dX5_sheet_82 (by decide) (fun c_82 => ?_) (fun c_82 => ?_)
                · refine lv_iload_n hx hb dX5_sheet_89 rfl (lv_at hl 3 rfl) ?_
                  refine x_iast hx hb hK hP hD hS 8 0 rfl rfl s1 rfl (by omega) (by decide) (wRo r ik tn j ++ (wA cI (r 1) 100 T ++ (wA cI (r 2) 100 K ++ (wA cI (r 3) 100 X ++ (wA cI (r 4) 100 Y ++ (wA cI (r 5) 8 (fR F) ++ (wA cI (r 6) 120 TB ++ (wA cI (r 7) 4 (bR (va_up SB s1 bt)) ++ (wA cI (r 8) 4 (va_up SS s1 n) ++ (wA cI (r 9) 160 SN)))))))))) (by rw [← wA_up cI (r 8) 4 SS n s1 (by omega)]; rfl) dX5_sheet_90 (fun H locs hP hD hS => ?_)
                  refine x_iconst hx hb dX5_sheet_91 ?_
                  refine lv_istore (lv' := [(4, .int (iI 0)), (0, .ref (r 0)), (1, .int (iI ((s1 : Nat) : Int))), (2, .int (iI bt)), (3, .int (iI n))]) hx hb dX5_sheet_92 hl (by decide) rfl (fun ls hl => ?_)
                  have L94 : ∀ (k t : Nat) (Nt : Nat → Int) (H : Heap) (locs : List Loc) (ls : Array Slot), t + k = 40 → (zeF (40 * s1) k t Nt = zeF (40 * s1) 40 0 SN) → va_P D vwCl (wRo r ik tn j ++ (wA cI (r 1) 100 T ++ (wA cI (r 2) 100 K ++ (wA cI (r 3) 100 X ++ (wA cI (r 4) 100 Y ++ (wA cI (r 5) 8 (fR F) ++ (wA cI (r 6) 120 TB ++ (wA cI (r 7) 4 (bR (va_up SB s1 bt)) ++ (wA cI (r 8) 4 (va_up SS s1 n) ++ (wA cI (r 9) 160 Nt)))))))))) H → va_D A (wRo r ik tn j ++ (wA cI (r 1) 100 T ++ (wA cI (r 2) 100 K ++ (wA cI (r 3) 100 X ++ (wA cI (r 4) 100 Y ++ (wA cI (r 5) 8 (fR F) ++ (wA cI (r 6) 120 TB ++ (wA cI (r 7) 4 (bR (va_up SB s1 bt)) ++ (wA cI (r 8) 4 (va_up SS s1 n) ++ (wA cI (r 9) 160 Nt)))))))))) → va_S A s.heap H locs → lv_has ls 5 [(0, .ref (r 0)), (1, .int (iI ((s1 : Nat) : Int))), (2, .int (iI bt)), (3, .int (iI n)), (4, .int (iI ((t : Nat) : Int)))] → W pg l e { frames := 1, cells := 0, slots := 0, locals := 21 } s m args below meth c H locs 0 0 Q (F0 m 94 ls []) := by
                    intro k
                    induction k with
                    | zero =>
                      intro t Nt H locs ls hkt hr hP hD hS hl
                      refine lv_iload hx hb dX5_sheet_94 (lv_at hl 4 rfl) ?_
                      refine x_bipush hx hb dX5_sheet_96 (by decide) ?_
                      refine x_icmp_ge (tgt := 120) hx hb (by omega) (by decide) dX5_sheet_98 (by decide) (fun c_98 => ?_) (fun c_98 => ?_)
                      · refine lv_aload_n hx hb dX5_sheet_120 rfl (lv_at hl 0 rfl) ?_
                        refine va_get (D := D) (ci := 4) (v := .ref (r 8)) (C := RX5) (T := TX5) (N := 18) hx hb hts (iT_X5_sheet_X5) hown hK hP 0 rfl rfl 9 (by decide) (hts (.fieldLink RX5 31 "WordSupperModel" "sizes" "[I") (by decide +kernel)) (fun _ h9 => h9) rfl dX5_sheet_121 ?_
                        refine lv_iload_n hx hb dX5_sheet_124 rfl (lv_at hl 1 rfl) ?_
                        refine x_iald hx hb hK hP 8 0 rfl rfl s1 rfl (by omega) (by decide) ((va_up SS s1 n) s1) (gd_at _ (by omega)) dX5_sheet_125 ?_
                        exact kend (((va_up SS s1 n) s1, T, K, ik, (va_up SB s1 bt), (va_up SS s1 n), Nt, tn, TB, F), X, Y, j) hP hS rfl (by unfold m_sheet; rw [if_neg (by omega), if_neg (by omega), if_neg (by omega), if_neg (by omega), Int.toNat_natCast, ← hr, up_s] <;> rfl) dX5_sheet_126
                      · exfalso; omega
                    | succ k ih =>
                      intro t Nt H locs ls hkt hr hP hD hS hl
                      refine lv_iload hx hb dX5_sheet_94 (lv_at hl 4 rfl) ?_
                      refine x_bipush hx hb dX5_sheet_96 (by decide) ?_
                      refine x_icmp_ge (tgt := 120) hx hb (by omega) (by decide) dX5_sheet_98 (by decide) (fun c_98 => ?_) (fun c_98 => ?_)
                      · exfalso; omega
                      · refine lv_aload_n hx hb dX5_sheet_101 rfl (lv_at hl 0 rfl) ?_
                        refine va_get (D := D) (ci := 4) (v := .ref (r 9)) (C := RX5) (T := TX5) (N := 18) hx hb hts (iT_X5_sheet_X5) hown hK hP 0 rfl rfl 10 (by decide) (hts (.fieldLink RX5 34 "WordSupperModel" "numbers" "[I") (by decide +kernel)) (fun _ h9 => h9) rfl dX5_sheet_102 ?_
                        refine x_bipush hx hb dX5_sheet_105 (by decide) ?_
                        refine lv_iload_n hx hb dX5_sheet_107 rfl (lv_at hl 1 rfl) ?_
                        refine x_imul hx hb dX5_sheet_108 ?_
                        refine x_topi ((40 * s1 : Nat) : Int) (by omega) ?_
                        refine lv_iload hx hb dX5_sheet_109 (lv_at hl 4 rfl) ?_
                        refine x_iadd hx hb dX5_sheet_111 ?_
                        refine x_topi (((40 * s1) + t : Nat) : Int) (by omega) ?_
                        refine x_iconst hx hb dX5_sheet_112 ?_
                        refine x_iast hx hb hK hP hD hS 9 0 rfl rfl ((40 * s1) + t) rfl (by omega) (by decide) (wRo r ik tn j ++ (wA cI (r 1) 100 T ++ (wA cI (r 2) 100 K ++ (wA cI (r 3) 100 X ++ (wA cI (r 4) 100 Y ++ (wA cI (r 5) 8 (fR F) ++ (wA cI (r 6) 120 TB ++ (wA cI (r 7) 4 (bR (va_up SB s1 bt)) ++ (wA cI (r 8) 4 (va_up SS s1 n) ++ (wA cI (r 9) 160 (va_up Nt ((40 * s1) + t) 0))))))))))) (by rw [← wA_up cI (r 9) 160 Nt 0 ((40 * s1) + t) (by omega)]; rfl) dX5_sheet_113 (fun H locs hP hD hS => ?_)
                        refine x_iinc hx hb 4 ((t + 1 : Nat) : Int) (by omega) [(4, .int (iI ((t + 1 : Nat) : Int))), (0, .ref (r 0)), (1, .int (iI ((s1 : Nat) : Int))), (2, .int (iI bt)), (3, .int (iI n))] dX5_sheet_114 hl rfl (by decide) rfl (fun ls hl => ?_)
                        refine lv_goto (tgt := 94) hx hb dX5_sheet_117 (by decide) ?_
                        exact ih (t + 1) (va_up Nt ((40 * s1) + t) 0) _ _ _ (by omega) hr hP hD hS (lv_sub hl [1, 2, 3, 4, 0] rfl)
                  exact L94 40 0 SN _ _ _ (by omega) rfl hP hD hS (lv_sub hl [1, 2, 3, 4, 0] rfl)
                · refine x_iconst hx hb dX5_sheet_85 ?_
                  refine lv_goto (tgt := 90) hx hb dX5_sheet_86 (by decide) ?_
                  refine x_iast hx hb hK hP hD hS 8 0 rfl rfl s1 rfl (by omega) (by decide) (wRo r ik tn j ++ (wA cI (r 1) 100 T ++ (wA cI (r 2) 100 K ++ (wA cI (r 3) 100 X ++ (wA cI (r 4) 100 Y ++ (wA cI (r 5) 8 (fR F) ++ (wA cI (r 6) 120 TB ++ (wA cI (r 7) 4 (bR (va_up SB s1 bt)) ++ (wA cI (r 8) 4 (va_up SS s1 0) ++ (wA cI (r 9) 160 SN)))))))))) (by rw [← wA_up cI (r 8) 4 SS 0 s1 (by omega)]; rfl) dX5_sheet_90 (fun H locs hP hD hS => ?_)
                  refine x_iconst hx hb dX5_sheet_91 ?_
                  refine lv_istore (lv' := [(4, .int (iI 0)), (0, .ref (r 0)), (1, .int (iI ((s1 : Nat) : Int))), (2, .int (iI bt)), (3, .int (iI n))]) hx hb dX5_sheet_92 hl (by decide) rfl (fun ls hl => ?_)
                  have L94 : ∀ (k t : Nat) (Nt : Nat → Int) (H : Heap) (locs : List Loc) (ls : Array Slot), t + k = 40 → (zeF (40 * s1) k t Nt = zeF (40 * s1) 40 0 SN) → va_P D vwCl (wRo r ik tn j ++ (wA cI (r 1) 100 T ++ (wA cI (r 2) 100 K ++ (wA cI (r 3) 100 X ++ (wA cI (r 4) 100 Y ++ (wA cI (r 5) 8 (fR F) ++ (wA cI (r 6) 120 TB ++ (wA cI (r 7) 4 (bR (va_up SB s1 bt)) ++ (wA cI (r 8) 4 (va_up SS s1 0) ++ (wA cI (r 9) 160 Nt)))))))))) H → va_D A (wRo r ik tn j ++ (wA cI (r 1) 100 T ++ (wA cI (r 2) 100 K ++ (wA cI (r 3) 100 X ++ (wA cI (r 4) 100 Y ++ (wA cI (r 5) 8 (fR F) ++ (wA cI (r 6) 120 TB ++ (wA cI (r 7) 4 (bR (va_up SB s1 bt)) ++ (wA cI (r 8) 4 (va_up SS s1 0) ++ (wA cI (r 9) 160 Nt)))))))))) → va_S A s.heap H locs → lv_has ls 5 [(0, .ref (r 0)), (1, .int (iI ((s1 : Nat) : Int))), (2, .int (iI bt)), (3, .int (iI n)), (4, .int (iI ((t : Nat) : Int)))] → W pg l e { frames := 1, cells := 0, slots := 0, locals := 21 } s m args below meth c H locs 0 0 Q (F0 m 94 ls []) := by
                    intro k
                    induction k with
                    | zero =>
                      intro t Nt H locs ls hkt hr hP hD hS hl
                      refine lv_iload hx hb dX5_sheet_94 (lv_at hl 4 rfl) ?_
                      refine x_bipush hx hb dX5_sheet_96 (by decide) ?_
                      refine x_icmp_ge (tgt := 120) hx hb (by omega) (by decide) dX5_sheet_98 (by decide) (fun c_98 => ?_) (fun c_98 => ?_)
                      · refine lv_aload_n hx hb dX5_sheet_120 rfl (lv_at hl 0 rfl) ?_
                        refine va_get (D := D) (ci := 4) (v := .ref (r 8)) (C := RX5) (T := TX5) (N := 18) hx hb hts (iT_X5_sheet_X5) hown hK hP 0 rfl rfl 9 (by decide) (hts (.fieldLink RX5 31 "WordSupperModel" "sizes" "[I") (by decide +kernel)) (fun _ h9 => h9) rfl dX5_sheet_121 ?_
                        refine lv_iload_n hx hb dX5_sheet_124 rfl (lv_at hl 1 rfl) ?_
                        refine x_iald hx hb hK hP 8 0 rfl rfl s1 rfl (by omega) (by decide) ((va_up SS s1 0) s1) (gd_at _ (by omega)) dX5_sheet_125 ?_
                        exact kend (((va_up SS s1 0) s1, T, K, ik, (va_up SB s1 bt), (va_up SS s1 0), Nt, tn, TB, F), X, Y, j) hP hS rfl (by exfalso; omega) dX5_sheet_126
                      · exfalso; omega
                    | succ k ih =>
                      intro t Nt H locs ls hkt hr hP hD hS hl
                      refine lv_iload hx hb dX5_sheet_94 (lv_at hl 4 rfl) ?_
                      refine x_bipush hx hb dX5_sheet_96 (by decide) ?_
                      refine x_icmp_ge (tgt := 120) hx hb (by omega) (by decide) dX5_sheet_98 (by decide) (fun c_98 => ?_) (fun c_98 => ?_)
                      · exfalso; omega
                      · refine lv_aload_n hx hb dX5_sheet_101 rfl (lv_at hl 0 rfl) ?_
                        refine va_get (D := D) (ci := 4) (v := .ref (r 9)) (C := RX5) (T := TX5) (N := 18) hx hb hts (iT_X5_sheet_X5) hown hK hP 0 rfl rfl 10 (by decide) (hts (.fieldLink RX5 34 "WordSupperModel" "numbers" "[I") (by decide +kernel)) (fun _ h9 => h9) rfl dX5_sheet_102 ?_
                        refine x_bipush hx hb dX5_sheet_105 (by decide) ?_
                        refine lv_iload_n hx hb dX5_sheet_107 rfl (lv_at hl 1 rfl) ?_
                        refine x_imul hx hb dX5_sheet_108 ?_
                        refine x_topi ((40 * s1 : Nat) : Int) (by omega) ?_
                        refine lv_iload hx hb dX5_sheet_109 (lv_at hl 4 rfl) ?_
                        refine x_iadd hx hb dX5_sheet_111 ?_
                        refine x_topi (((40 * s1) + t : Nat) : Int) (by omega) ?_
                        refine x_iconst hx hb dX5_sheet_112 ?_
                        refine x_iast hx hb hK hP hD hS 9 0 rfl rfl ((40 * s1) + t) rfl (by omega) (by decide) (wRo r ik tn j ++ (wA cI (r 1) 100 T ++ (wA cI (r 2) 100 K ++ (wA cI (r 3) 100 X ++ (wA cI (r 4) 100 Y ++ (wA cI (r 5) 8 (fR F) ++ (wA cI (r 6) 120 TB ++ (wA cI (r 7) 4 (bR (va_up SB s1 bt)) ++ (wA cI (r 8) 4 (va_up SS s1 0) ++ (wA cI (r 9) 160 (va_up Nt ((40 * s1) + t) 0))))))))))) (by rw [← wA_up cI (r 9) 160 Nt 0 ((40 * s1) + t) (by omega)]; rfl) dX5_sheet_113 (fun H locs hP hD hS => ?_)
                        refine x_iinc hx hb 4 ((t + 1 : Nat) : Int) (by omega) [(4, .int (iI ((t + 1 : Nat) : Int))), (0, .ref (r 0)), (1, .int (iI ((s1 : Nat) : Int))), (2, .int (iI bt)), (3, .int (iI n))] dX5_sheet_114 hl rfl (by decide) rfl (fun ls hl => ?_)
                        refine lv_goto (tgt := 94) hx hb dX5_sheet_117 (by decide) ?_
                        exact ih (t + 1) (va_up Nt ((40 * s1) + t) 0) _ _ _ (by omega) hr hP hD hS (lv_sub hl [1, 2, 3, 4, 0] rfl)
                  exact L94 40 0 SN _ _ _ (by omega) rfl hP hD hS (lv_sub hl [1, 2, 3, 4, 0] rfl)
              · obtain rfl : bt = 0 := by omega
                refine x_iconst hx hb dX5_sheet_70 ?_
                refine lv_goto (tgt := 75) hx hb dX5_sheet_71 (by decide) ?_
                refine x_iast hx hb hK hP hD hS 7 0 rfl rfl s1 rfl (by omega) (by decide) (wRo r ik tn j ++ (wA cI (r 1) 100 T ++ (wA cI (r 2) 100 K ++ (wA cI (r 3) 100 X ++ (wA cI (r 4) 100 Y ++ (wA cI (r 5) 8 (fR F) ++ (wA cI (r 6) 120 TB ++ (wA cI (r 7) 4 (va_up (bR SB) s1 (-1)) ++ (wA cI (r 8) 4 SS ++ (wA cI (r 9) 160 SN)))))))))) (by rw [← wA_up cI (r 7) 4 (bR SB) (-1) s1 (by omega)]; rfl) dX5_sheet_75 (fun H locs hP hD hS => ?_)
                rw [bR_up0] at hP hD
                refine lv_aload_n hx hb dX5_sheet_76 rfl (lv_at hl 0 rfl) ?_
                refine va_get (D := D) (ci := 4) (v := .ref (r 8)) (C := RX5) (T := TX5) (N := 18) hx hb hts (iT_X5_sheet_X5) hown hK hP 0 rfl rfl 9 (by decide) (hts (.fieldLink RX5 31 "WordSupperModel" "sizes" "[I") (by decide +kernel)) (fun _ h9 => h9) rfl dX5_sheet_77 ?_
                refine lv_iload_n hx hb dX5_sheet_80 rfl (lv_at hl 1 rfl) ?_
                refine lv_iload_n hx hb dX5_sheet_81 rfl (lv_at hl 2 rfl) ?_
                refine x_if_ne (tgt := 89) hx hb (by decide) dX5_sheet_82 (by decide) (fun c_82 => ?_) (fun c_82 => ?_)
                · exact absurd c_82 (by decide)
                · refine x_iconst hx hb dX5_sheet_85 ?_
                  refine lv_goto (tgt := 90) hx hb dX5_sheet_86 (by decide) ?_
                  refine x_iast hx hb hK hP hD hS 8 0 rfl rfl s1 rfl (by omega) (by decide) (wRo r ik tn j ++ (wA cI (r 1) 100 T ++ (wA cI (r 2) 100 K ++ (wA cI (r 3) 100 X ++ (wA cI (r 4) 100 Y ++ (wA cI (r 5) 8 (fR F) ++ (wA cI (r 6) 120 TB ++ (wA cI (r 7) 4 (bR (va_up SB s1 0)) ++ (wA cI (r 8) 4 (va_up SS s1 0) ++ (wA cI (r 9) 160 SN)))))))))) (by rw [← wA_up cI (r 8) 4 SS 0 s1 (by omega)]; rfl) dX5_sheet_90 (fun H locs hP hD hS => ?_)
                  refine x_iconst hx hb dX5_sheet_91 ?_
                  refine lv_istore (lv' := [(4, .int (iI 0)), (0, .ref (r 0)), (1, .int (iI ((s1 : Nat) : Int))), (2, .int (iI 0)), (3, .int (iI n))]) hx hb dX5_sheet_92 hl (by decide) rfl (fun ls hl => ?_)
                  have L94 : ∀ (k t : Nat) (Nt : Nat → Int) (H : Heap) (locs : List Loc) (ls : Array Slot), t + k = 40 → (zeF (40 * s1) k t Nt = zeF (40 * s1) 40 0 SN) → va_P D vwCl (wRo r ik tn j ++ (wA cI (r 1) 100 T ++ (wA cI (r 2) 100 K ++ (wA cI (r 3) 100 X ++ (wA cI (r 4) 100 Y ++ (wA cI (r 5) 8 (fR F) ++ (wA cI (r 6) 120 TB ++ (wA cI (r 7) 4 (bR (va_up SB s1 0)) ++ (wA cI (r 8) 4 (va_up SS s1 0) ++ (wA cI (r 9) 160 Nt)))))))))) H → va_D A (wRo r ik tn j ++ (wA cI (r 1) 100 T ++ (wA cI (r 2) 100 K ++ (wA cI (r 3) 100 X ++ (wA cI (r 4) 100 Y ++ (wA cI (r 5) 8 (fR F) ++ (wA cI (r 6) 120 TB ++ (wA cI (r 7) 4 (bR (va_up SB s1 0)) ++ (wA cI (r 8) 4 (va_up SS s1 0) ++ (wA cI (r 9) 160 Nt)))))))))) → va_S A s.heap H locs → lv_has ls 5 [(0, .ref (r 0)), (1, .int (iI ((s1 : Nat) : Int))), (2, .int (iI 0)), (3, .int (iI n)), (4, .int (iI ((t : Nat) : Int)))] → W pg l e { frames := 1, cells := 0, slots := 0, locals := 21 } s m args below meth c H locs 0 0 Q (F0 m 94 ls []) := by
                    intro k
                    induction k with
                    | zero =>
                      intro t Nt H locs ls hkt hr hP hD hS hl
                      refine lv_iload hx hb dX5_sheet_94 (lv_at hl 4 rfl) ?_
                      refine x_bipush hx hb dX5_sheet_96 (by decide) ?_
                      refine x_icmp_ge (tgt := 120) hx hb (by omega) (by decide) dX5_sheet_98 (by decide) (fun c_98 => ?_) (fun c_98 => ?_)
                      · refine lv_aload_n hx hb dX5_sheet_120 rfl (lv_at hl 0 rfl) ?_
                        refine va_get (D := D) (ci := 4) (v := .ref (r 8)) (C := RX5) (T := TX5) (N := 18) hx hb hts (iT_X5_sheet_X5) hown hK hP 0 rfl rfl 9 (by decide) (hts (.fieldLink RX5 31 "WordSupperModel" "sizes" "[I") (by decide +kernel)) (fun _ h9 => h9) rfl dX5_sheet_121 ?_
                        refine lv_iload_n hx hb dX5_sheet_124 rfl (lv_at hl 1 rfl) ?_
                        refine x_iald hx hb hK hP 8 0 rfl rfl s1 rfl (by omega) (by decide) ((va_up SS s1 0) s1) (gd_at _ (by omega)) dX5_sheet_125 ?_
                        exact kend (((va_up SS s1 0) s1, T, K, ik, (va_up SB s1 0), (va_up SS s1 0), Nt, tn, TB, F), X, Y, j) hP hS rfl (by unfold m_sheet; rw [if_neg (by omega), if_neg (by omega), if_neg (by omega), if_pos rfl, Int.toNat_natCast, ← hr, up_s] <;> rfl) dX5_sheet_126
                      · exfalso; omega
                    | succ k ih =>
                      intro t Nt H locs ls hkt hr hP hD hS hl
                      refine lv_iload hx hb dX5_sheet_94 (lv_at hl 4 rfl) ?_
                      refine x_bipush hx hb dX5_sheet_96 (by decide) ?_
                      refine x_icmp_ge (tgt := 120) hx hb (by omega) (by decide) dX5_sheet_98 (by decide) (fun c_98 => ?_) (fun c_98 => ?_)
                      · exfalso; omega
                      · refine lv_aload_n hx hb dX5_sheet_101 rfl (lv_at hl 0 rfl) ?_
                        refine va_get (D := D) (ci := 4) (v := .ref (r 9)) (C := RX5) (T := TX5) (N := 18) hx hb hts (iT_X5_sheet_X5) hown hK hP 0 rfl rfl 10 (by decide) (hts (.fieldLink RX5 34 "WordSupperModel" "numbers" "[I") (by decide +kernel)) (fun _ h9 => h9) rfl dX5_sheet_102 ?_
                        refine x_bipush hx hb dX5_sheet_105 (by decide) ?_
                        refine lv_iload_n hx hb dX5_sheet_107 rfl (lv_at hl 1 rfl) ?_
                        refine x_imul hx hb dX5_sheet_108 ?_
                        refine x_topi ((40 * s1 : Nat) : Int) (by omega) ?_
                        refine lv_iload hx hb dX5_sheet_109 (lv_at hl 4 rfl) ?_
                        refine x_iadd hx hb dX5_sheet_111 ?_
                        refine x_topi (((40 * s1) + t : Nat) : Int) (by omega) ?_
                        refine x_iconst hx hb dX5_sheet_112 ?_
                        refine x_iast hx hb hK hP hD hS 9 0 rfl rfl ((40 * s1) + t) rfl (by omega) (by decide) (wRo r ik tn j ++ (wA cI (r 1) 100 T ++ (wA cI (r 2) 100 K ++ (wA cI (r 3) 100 X ++ (wA cI (r 4) 100 Y ++ (wA cI (r 5) 8 (fR F) ++ (wA cI (r 6) 120 TB ++ (wA cI (r 7) 4 (bR (va_up SB s1 0)) ++ (wA cI (r 8) 4 (va_up SS s1 0) ++ (wA cI (r 9) 160 (va_up Nt ((40 * s1) + t) 0))))))))))) (by rw [← wA_up cI (r 9) 160 Nt 0 ((40 * s1) + t) (by omega)]; rfl) dX5_sheet_113 (fun H locs hP hD hS => ?_)
                        refine x_iinc hx hb 4 ((t + 1 : Nat) : Int) (by omega) [(4, .int (iI ((t + 1 : Nat) : Int))), (0, .ref (r 0)), (1, .int (iI ((s1 : Nat) : Int))), (2, .int (iI 0)), (3, .int (iI n))] dX5_sheet_114 hl rfl (by decide) rfl (fun ls hl => ?_)
                        refine lv_goto (tgt := 94) hx hb dX5_sheet_117 (by decide) ?_
                        exact ih (t + 1) (va_up Nt ((40 * s1) + t) 0) _ _ _ (by omega) hr hP hD hS (lv_sub hl [1, 2, 3, 4, 0] rfl)
                  exact L94 40 0 SN _ _ _ (by omega) rfl hP hD hS (lv_sub hl [1, 2, 3, 4, 0] rfl)
            · refine lv_aload_n hx hb dX5_sheet_54 rfl (lv_at hl 0 rfl) ?_
              refine x_ldc hx hb (-1000001) rfl hown (hts (.constant RX5 37 (-1000001)) (by decide +kernel)) dX5_sheet_55 ?_
              refine x_callV (As := [.int (iI (-1000001))]) (rest := []) ⟨hx, hb, hml, hown, hts⟩ (kX5_finds r ik tn j F (-1000001) 0 (by omega) (by omega)) (cwV 1 hts gX5_sheet_X5_finds rfl rfl rfl ykVX5_finds ⟨Nat.le_of_ble_eq_true rfl, Nat.le_of_ble_eq_true rfl⟩) hP hK hD hS 0 4 rfl rfl rfl [0, 5] rfl (by decide) (fun _ => rfl) (fun _ => wRo r ik tn j ++ (wA cI (r 1) 100 T ++ (wA cI (r 2) 100 K ++ (wA cI (r 3) 100 X ++ (wA cI (r 4) 100 Y ++ (wA cI (r 5) 8 (fR (bmp 0 F)) ++ (wA cI (r 6) 120 TB ++ (wA cI (r 7) 4 (bR SB) ++ (wA cI (r 8) 4 SS ++ (wA cI (r 9) 160 SN)))))))))) (fun _ => rfl) rfl hl.1 rfl (Nat.le_of_ble_eq_true rfl) dX5_sheet_57 ⟨Nat.le_of_ble_eq_true rfl, Nat.le_of_ble_eq_true rfl⟩ (fun _ H locs _ hP hD hS => ?_)
              refine W.eq (g2 := F0 m 60 ls [.int (iI (-1000001))]) rfl ?_
              exact kend (((-1000001), T, K, ik, SB, SS, SN, tn, TB, (bmp 0 F)), X, Y, j) hP hS rfl (by first | exact ((if_pos (by omega))).symm | exact (((if_neg (by omega)).trans ((if_neg (by omega)).trans (if_pos (by omega))))).symm) dX5_sheet_60
          · refine lv_aload_n hx hb dX5_sheet_40 rfl (lv_at hl 0 rfl) ?_
            refine x_ldcw hx hb (-1000007) rfl hown (hts (.constant RX5 281 (-1000007)) (by decide +kernel)) dX5_sheet_41 ?_
            refine x_callV (As := [.int (iI (-1000007))]) (rest := []) ⟨hx, hb, hml, hown, hts⟩ (kX5_finds r ik tn j F (-1000007) 6 (by omega) (by omega)) (cwV 1 hts gX5_sheet_X5_finds rfl rfl rfl ykVX5_finds ⟨Nat.le_of_ble_eq_true rfl, Nat.le_of_ble_eq_true rfl⟩) hP hK hD hS 0 4 rfl rfl rfl [0, 5] rfl (by decide) (fun _ => rfl) (fun _ => wRo r ik tn j ++ (wA cI (r 1) 100 T ++ (wA cI (r 2) 100 K ++ (wA cI (r 3) 100 X ++ (wA cI (r 4) 100 Y ++ (wA cI (r 5) 8 (fR (bmp 6 F)) ++ (wA cI (r 6) 120 TB ++ (wA cI (r 7) 4 (bR SB) ++ (wA cI (r 8) 4 SS ++ (wA cI (r 9) 160 SN)))))))))) (fun _ => rfl) rfl hl.1 rfl (Nat.le_of_ble_eq_true rfl) dX5_sheet_44 ⟨Nat.le_of_ble_eq_true rfl, Nat.le_of_ble_eq_true rfl⟩ (fun _ H locs _ hP hD hS => ?_)
            refine W.eq (g2 := F0 m 47 ls [.int (iI (-1000007))]) rfl ?_
            exact kend (((-1000007), T, K, ik, SB, SS, SN, tn, TB, (bmp 6 F)), X, Y, j) hP hS rfl (((if_neg (by omega)).trans (if_pos (by omega)))).symm dX5_sheet_47
        · refine lv_iload_n hx hb dX5_sheet_23 rfl (lv_at hl 2 rfl) ?_
          refine x_bipush hx hb dX5_sheet_24 (by decide) ?_
          refine x_icmp_eq (tgt := 36) hx hb (by omega) (by decide) dX5_sheet_26 (by decide) (fun c_26 => ?_) (fun c_26 => ?_)
          · refine lv_iload_n hx hb dX5_sheet_36 rfl (lv_at hl 3 rfl) ?_
            refine x_if_ge (tgt := 48) hx hb (by omega) dX5_sheet_37 (by decide) (fun c_37 => ?_) (fun c_37 => ?_)
            · refine lv_iload_n hx hb dX5_sheet_48 rfl (lv_at hl 3 rfl) ?_
              refine x_bipush hx hb dX5_sheet_49 (by decide) ?_
              refine x_icmp_le (tgt := 61) hx hb (by omega) (by decide) dX5_sheet_51 (by decide) (fun c_51 => ?_) (fun c_51 => ?_)
              · obtain ⟨s1, rfl⟩ : ∃ s1 : Nat, s0 = (s1 : Int) := ⟨s0.toNat, by omega⟩
                refine lv_aload_n hx hb dX5_sheet_61 rfl (lv_at hl 0 rfl) ?_
                refine va_get (D := D) (ci := 4) (v := .ref (r 7)) (C := RX5) (T := TX5) (N := 18) hx hb hts (iT_X5_sheet_X5) hown hK hP 0 rfl rfl 8 (by decide) (hts (.fieldLink RX5 28 "WordSupperModel" "bitsOf" "[I") (by decide +kernel)) (fun _ h9 => h9) rfl dX5_sheet_62 ?_
                refine lv_iload_n hx hb dX5_sheet_65 rfl (lv_at hl 1 rfl) ?_
                refine lv_iload_n hx hb dX5_sheet_66 rfl (lv_at hl 2 rfl) ?_
                refine x_if_ne (tgt := 74) hx hb (by omega) dX5_sheet_67 (by decide) (fun c_67 => ?_) (fun c_67 => ?_)
                · refine lv_iload_n hx hb dX5_sheet_74 rfl (lv_at hl 2 rfl) ?_
                  refine x_iast hx hb hK hP hD hS 7 0 rfl rfl s1 rfl (by omega) (by decide) (wRo r ik tn j ++ (wA cI (r 1) 100 T ++ (wA cI (r 2) 100 K ++ (wA cI (r 3) 100 X ++ (wA cI (r 4) 100 Y ++ (wA cI (r 5) 8 (fR F) ++ (wA cI (r 6) 120 TB ++ (wA cI (r 7) 4 (va_up (bR SB) s1 bt) ++ (wA cI (r 8) 4 SS ++ (wA cI (r 9) 160 SN)))))))))) (by rw [← wA_up cI (r 7) 4 (bR SB) bt s1 (by omega)]; rfl) dX5_sheet_75 (fun H locs hP hD hS => ?_)
                  rw [bR_up1 _ _ (show bt ≠ 0 by omega)] at hP hD
                  refine lv_aload_n hx hb dX5_sheet_76 rfl (lv_at hl 0 rfl) ?_
                  refine va_get (D := D) (ci := 4) (v := .ref (r 8)) (C := RX5) (T := TX5) (N := 18) hx hb hts (iT_X5_sheet_X5) hown hK hP 0 rfl rfl 9 (by decide) (hts (.fieldLink RX5 31 "WordSupperModel" "sizes" "[I") (by decide +kernel)) (fun _ h9 => h9) rfl dX5_sheet_77 ?_
                  refine lv_iload_n hx hb dX5_sheet_80 rfl (lv_at hl 1 rfl) ?_
                  refine lv_iload_n hx hb dX5_sheet_81 rfl (lv_at hl 2 rfl) ?_
                  refine x_if_ne (tgt := 89) hx hb (by omega) dX5_sheet_82 (by decide) (fun c_82 => ?_) (fun c_82 => ?_)
                  · refine lv_iload_n hx hb dX5_sheet_89 rfl (lv_at hl 3 rfl) ?_
                    refine x_iast hx hb hK hP hD hS 8 0 rfl rfl s1 rfl (by omega) (by decide) (wRo r ik tn j ++ (wA cI (r 1) 100 T ++ (wA cI (r 2) 100 K ++ (wA cI (r 3) 100 X ++ (wA cI (r 4) 100 Y ++ (wA cI (r 5) 8 (fR F) ++ (wA cI (r 6) 120 TB ++ (wA cI (r 7) 4 (bR (va_up SB s1 bt)) ++ (wA cI (r 8) 4 (va_up SS s1 n) ++ (wA cI (r 9) 160 SN)))))))))) (by rw [← wA_up cI (r 8) 4 SS n s1 (by omega)]; rfl) dX5_sheet_90 (fun H locs hP hD hS => ?_)
                    refine x_iconst hx hb dX5_sheet_91 ?_
                    refine lv_istore (lv' := [(4, .int (iI 0)), (0, .ref (r 0)), (1, .int (iI ((s1 : Nat) : Int))), (2, .int (iI bt)), (3, .int (iI n))]) hx hb dX5_sheet_92 hl (by decide) rfl (fun ls hl => ?_)
                    have L94 : ∀ (k t : Nat) (Nt : Nat → Int) (H : Heap) (locs : List Loc) (ls : Array Slot), t + k = 40 → (zeF (40 * s1) k t Nt = zeF (40 * s1) 40 0 SN) → va_P D vwCl (wRo r ik tn j ++ (wA cI (r 1) 100 T ++ (wA cI (r 2) 100 K ++ (wA cI (r 3) 100 X ++ (wA cI (r 4) 100 Y ++ (wA cI (r 5) 8 (fR F) ++ (wA cI (r 6) 120 TB ++ (wA cI (r 7) 4 (bR (va_up SB s1 bt)) ++ (wA cI (r 8) 4 (va_up SS s1 n) ++ (wA cI (r 9) 160 Nt)))))))))) H → va_D A (wRo r ik tn j ++ (wA cI (r 1) 100 T ++ (wA cI (r 2) 100 K ++ (wA cI (r 3) 100 X ++ (wA cI (r 4) 100 Y ++ (wA cI (r 5) 8 (fR F) ++ (wA cI (r 6) 120 TB ++ (wA cI (r 7) 4 (bR (va_up SB s1 bt)) ++ (wA cI (r 8) 4 (va_up SS s1 n) ++ (wA cI (r 9) 160 Nt)))))))))) → va_S A s.heap H locs → lv_has ls 5 [(0, .ref (r 0)), (1, .int (iI ((s1 : Nat) : Int))), (2, .int (iI bt)), (3, .int (iI n)), (4, .int (iI ((t : Nat) : Int)))] → W pg l e { frames := 1, cells := 0, slots := 0, locals := 21 } s m args below meth c H locs 0 0 Q (F0 m 94 ls []) := by
                      intro k
                      induction k with
                      | zero =>
                        intro t Nt H locs ls hkt hr hP hD hS hl
                        refine lv_iload hx hb dX5_sheet_94 (lv_at hl 4 rfl) ?_
                        refine x_bipush hx hb dX5_sheet_96 (by decide) ?_
                        refine x_icmp_ge (tgt := 120) hx hb (by omega) (by decide) dX5_sheet_98 (by decide) (fun c_98 => ?_) (fun c_98 => ?_)
                        · refine lv_aload_n hx hb dX5_sheet_120 rfl (lv_at hl 0 rfl) ?_
                          refine va_get (D := D) (ci := 4) (v := .ref (r 8)) (C := RX5) (T := TX5) (N := 18) hx hb hts (iT_X5_sheet_X5) hown hK hP 0 rfl rfl 9 (by decide) (hts (.fieldLink RX5 31 "WordSupperModel" "sizes" "[I") (by decide +kernel)) (fun _ h9 => h9) rfl dX5_sheet_121 ?_
                          refine lv_iload_n hx hb dX5_sheet_124 rfl (lv_at hl 1 rfl) ?_
                          refine x_iald hx hb hK hP 8 0 rfl rfl s1 rfl (by omega) (by decide) ((va_up SS s1 n) s1) (gd_at _ (by omega)) dX5_sheet_125 ?_
                          exact kend (((va_up SS s1 n) s1, T, K, ik, (va_up SB s1 bt), (va_up SS s1 n), Nt, tn, TB, F), X, Y, j) hP hS rfl (by unfold m_sheet; rw [if_neg (by omega), if_neg (by omega), if_neg (by omega), if_neg (by omega), Int.toNat_natCast, ← hr, up_s] <;> rfl) dX5_sheet_126
                        · exfalso; omega
                      | succ k ih =>
                        intro t Nt H locs ls hkt hr hP hD hS hl
                        refine lv_iload hx hb dX5_sheet_94 (lv_at hl 4 rfl) ?_
                        refine x_bipush hx hb dX5_sheet_96 (by decide) ?_
                        refine x_icmp_ge (tgt := 120) hx hb (by omega) (by decide) dX5_sheet_98 (by decide) (fun c_98 => ?_) (fun c_98 => ?_)
                        · exfalso; omega
                        · refine lv_aload_n hx hb dX5_sheet_101 rfl (lv_at hl 0 rfl) ?_
                          refine va_get (D := D) (ci := 4) (v := .ref (r 9)) (C := RX5) (T := TX5) (N := 18) hx hb hts (iT_X5_sheet_X5) hown hK hP 0 rfl rfl 10 (by decide) (hts (.fieldLink RX5 34 "WordSupperModel" "numbers" "[I") (by decide +kernel)) (fun _ h9 => h9) rfl dX5_sheet_102 ?_
                          refine x_bipush hx hb dX5_sheet_105 (by decide) ?_
                          refine lv_iload_n hx hb dX5_sheet_107 rfl (lv_at hl 1 rfl) ?_
                          refine x_imul hx hb dX5_sheet_108 ?_
                          refine x_topi ((40 * s1 : Nat) : Int) (by omega) ?_
                          refine lv_iload hx hb dX5_sheet_109 (lv_at hl 4 rfl) ?_
                          refine x_iadd hx hb dX5_sheet_111 ?_
                          refine x_topi (((40 * s1) + t : Nat) : Int) (by omega) ?_
                          refine x_iconst hx hb dX5_sheet_112 ?_
                          refine x_iast hx hb hK hP hD hS 9 0 rfl rfl ((40 * s1) + t) rfl (by omega) (by decide) (wRo r ik tn j ++ (wA cI (r 1) 100 T ++ (wA cI (r 2) 100 K ++ (wA cI (r 3) 100 X ++ (wA cI (r 4) 100 Y ++ (wA cI (r 5) 8 (fR F) ++ (wA cI (r 6) 120 TB ++ (wA cI (r 7) 4 (bR (va_up SB s1 bt)) ++ (wA cI (r 8) 4 (va_up SS s1 n) ++ (wA cI (r 9) 160 (va_up Nt ((40 * s1) + t) 0))))))))))) (by rw [← wA_up cI (r 9) 160 Nt 0 ((40 * s1) + t) (by omega)]; rfl) dX5_sheet_113 (fun H locs hP hD hS => ?_)
                          refine x_iinc hx hb 4 ((t + 1 : Nat) : Int) (by omega) [(4, .int (iI ((t + 1 : Nat) : Int))), (0, .ref (r 0)), (1, .int (iI ((s1 : Nat) : Int))), (2, .int (iI bt)), (3, .int (iI n))] dX5_sheet_114 hl rfl (by decide) rfl (fun ls hl => ?_)
                          refine lv_goto (tgt := 94) hx hb dX5_sheet_117 (by decide) ?_
                          exact ih (t + 1) (va_up Nt ((40 * s1) + t) 0) _ _ _ (by omega) hr hP hD hS (lv_sub hl [1, 2, 3, 4, 0] rfl)
                    exact L94 40 0 SN _ _ _ (by omega) rfl hP hD hS (lv_sub hl [1, 2, 3, 4, 0] rfl)
                  · refine x_iconst hx hb dX5_sheet_85 ?_
                    refine lv_goto (tgt := 90) hx hb dX5_sheet_86 (by decide) ?_
                    refine x_iast hx hb hK hP hD hS 8 0 rfl rfl s1 rfl (by omega) (by decide) (wRo r ik tn j ++ (wA cI (r 1) 100 T ++ (wA cI (r 2) 100 K ++ (wA cI (r 3) 100 X ++ (wA cI (r 4) 100 Y ++ (wA cI (r 5) 8 (fR F) ++ (wA cI (r 6) 120 TB ++ (wA cI (r 7) 4 (bR (va_up SB s1 bt)) ++ (wA cI (r 8) 4 (va_up SS s1 0) ++ (wA cI (r 9) 160 SN)))))))))) (by rw [← wA_up cI (r 8) 4 SS 0 s1 (by omega)]; rfl) dX5_sheet_90 (fun H locs hP hD hS => ?_)
                    refine x_iconst hx hb dX5_sheet_91 ?_
                    refine lv_istore (lv' := [(4, .int (iI 0)), (0, .ref (r 0)), (1, .int (iI ((s1 : Nat) : Int))), (2, .int (iI bt)), (3, .int (iI n))]) hx hb dX5_sheet_92 hl (by decide) rfl (fun ls hl => ?_)
                    have L94 : ∀ (k t : Nat) (Nt : Nat → Int) (H : Heap) (locs : List Loc) (ls : Array Slot), t + k = 40 → (zeF (40 * s1) k t Nt = zeF (40 * s1) 40 0 SN) → va_P D vwCl (wRo r ik tn j ++ (wA cI (r 1) 100 T ++ (wA cI (r 2) 100 K ++ (wA cI (r 3) 100 X ++ (wA cI (r 4) 100 Y ++ (wA cI (r 5) 8 (fR F) ++ (wA cI (r 6) 120 TB ++ (wA cI (r 7) 4 (bR (va_up SB s1 bt)) ++ (wA cI (r 8) 4 (va_up SS s1 0) ++ (wA cI (r 9) 160 Nt)))))))))) H → va_D A (wRo r ik tn j ++ (wA cI (r 1) 100 T ++ (wA cI (r 2) 100 K ++ (wA cI (r 3) 100 X ++ (wA cI (r 4) 100 Y ++ (wA cI (r 5) 8 (fR F) ++ (wA cI (r 6) 120 TB ++ (wA cI (r 7) 4 (bR (va_up SB s1 bt)) ++ (wA cI (r 8) 4 (va_up SS s1 0) ++ (wA cI (r 9) 160 Nt)))))))))) → va_S A s.heap H locs → lv_has ls 5 [(0, .ref (r 0)), (1, .int (iI ((s1 : Nat) : Int))), (2, .int (iI bt)), (3, .int (iI n)), (4, .int (iI ((t : Nat) : Int)))] → W pg l e { frames := 1, cells := 0, slots := 0, locals := 21 } s m args below meth c H locs 0 0 Q (F0 m 94 ls []) := by
                      intro k
                      induction k with
                      | zero =>
                        intro t Nt H locs ls hkt hr hP hD hS hl
                        refine lv_iload hx hb dX5_sheet_94 (lv_at hl 4 rfl) ?_
                        refine x_bipush hx hb dX5_sheet_96 (by decide) ?_
                        refine x_icmp_ge (tgt := 120) hx hb (by omega) (by decide) dX5_sheet_98 (by decide) (fun c_98 => ?_) (fun c_98 => ?_)
                        · refine lv_aload_n hx hb dX5_sheet_120 rfl (lv_at hl 0 rfl) ?_
                          refine va_get (D := D) (ci := 4) (v := .ref (r 8)) (C := RX5) (T := TX5) (N := 18) hx hb hts (iT_X5_sheet_X5) hown hK hP 0 rfl rfl 9 (by decide) (hts (.fieldLink RX5 31 "WordSupperModel" "sizes" "[I") (by decide +kernel)) (fun _ h9 => h9) rfl dX5_sheet_121 ?_
                          refine lv_iload_n hx hb dX5_sheet_124 rfl (lv_at hl 1 rfl) ?_
                          refine x_iald hx hb hK hP 8 0 rfl rfl s1 rfl (by omega) (by decide) ((va_up SS s1 0) s1) (gd_at _ (by omega)) dX5_sheet_125 ?_
                          exact kend (((va_up SS s1 0) s1, T, K, ik, (va_up SB s1 bt), (va_up SS s1 0), Nt, tn, TB, F), X, Y, j) hP hS rfl (by exfalso; omega) dX5_sheet_126
                        · exfalso; omega
                      | succ k ih =>
                        intro t Nt H locs ls hkt hr hP hD hS hl
                        refine lv_iload hx hb dX5_sheet_94 (lv_at hl 4 rfl) ?_
                        refine x_bipush hx hb dX5_sheet_96 (by decide) ?_
                        refine x_icmp_ge (tgt := 120) hx hb (by omega) (by decide) dX5_sheet_98 (by decide) (fun c_98 => ?_) (fun c_98 => ?_)
                        · exfalso; omega
                        · refine lv_aload_n hx hb dX5_sheet_101 rfl (lv_at hl 0 rfl) ?_
                          refine va_get (D := D) (ci := 4) (v := .ref (r 9)) (C := RX5) (T := TX5) (N := 18) hx hb hts (iT_X5_sheet_X5) hown hK hP 0 rfl rfl 10 (by decide) (hts (.fieldLink RX5 34 "WordSupperModel" "numbers" "[I") (by decide +kernel)) (fun _ h9 => h9) rfl dX5_sheet_102 ?_
                          refine x_bipush hx hb dX5_sheet_105 (by decide) ?_
                          refine lv_iload_n hx hb dX5_sheet_107 rfl (lv_at hl 1 rfl) ?_
                          refine x_imul hx hb dX5_sheet_108 ?_
                          refine x_topi ((40 * s1 : Nat) : Int) (by omega) ?_
                          refine lv_iload hx hb dX5_sheet_109 (lv_at hl 4 rfl) ?_
                          refine x_iadd hx hb dX5_sheet_111 ?_
                          refine x_topi (((40 * s1) + t : Nat) : Int) (by omega) ?_
                          refine x_iconst hx hb dX5_sheet_112 ?_
                          refine x_iast hx hb hK hP hD hS 9 0 rfl rfl ((40 * s1) + t) rfl (by omega) (by decide) (wRo r ik tn j ++ (wA cI (r 1) 100 T ++ (wA cI (r 2) 100 K ++ (wA cI (r 3) 100 X ++ (wA cI (r 4) 100 Y ++ (wA cI (r 5) 8 (fR F) ++ (wA cI (r 6) 120 TB ++ (wA cI (r 7) 4 (bR (va_up SB s1 bt)) ++ (wA cI (r 8) 4 (va_up SS s1 0) ++ (wA cI (r 9) 160 (va_up Nt ((40 * s1) + t) 0))))))))))) (by rw [← wA_up cI (r 9) 160 Nt 0 ((40 * s1) + t) (by omega)]; rfl) dX5_sheet_113 (fun H locs hP hD hS => ?_)
                          refine x_iinc hx hb 4 ((t + 1 : Nat) : Int) (by omega) [(4, .int (iI ((t + 1 : Nat) : Int))), (0, .ref (r 0)), (1, .int (iI ((s1 : Nat) : Int))), (2, .int (iI bt)), (3, .int (iI n))] dX5_sheet_114 hl rfl (by decide) rfl (fun ls hl => ?_)
                          refine lv_goto (tgt := 94) hx hb dX5_sheet_117 (by decide) ?_
                          exact ih (t + 1) (va_up Nt ((40 * s1) + t) 0) _ _ _ (by omega) hr hP hD hS (lv_sub hl [1, 2, 3, 4, 0] rfl)
                    exact L94 40 0 SN _ _ _ (by omega) rfl hP hD hS (lv_sub hl [1, 2, 3, 4, 0] rfl)
                · obtain rfl : bt = 0 := by omega
                  refine x_iconst hx hb dX5_sheet_70 ?_
                  refine lv_goto (tgt := 75) hx hb dX5_sheet_71 (by decide) ?_
                  refine x_iast hx hb hK hP hD hS 7 0 rfl rfl s1 rfl (by omega) (by decide) (wRo r ik tn j ++ (wA cI (r 1) 100 T ++ (wA cI (r 2) 100 K ++ (wA cI (r 3) 100 X ++ (wA cI (r 4) 100 Y ++ (wA cI (r 5) 8 (fR F) ++ (wA cI (r 6) 120 TB ++ (wA cI (r 7) 4 (va_up (bR SB) s1 (-1)) ++ (wA cI (r 8) 4 SS ++ (wA cI (r 9) 160 SN)))))))))) (by rw [← wA_up cI (r 7) 4 (bR SB) (-1) s1 (by omega)]; rfl) dX5_sheet_75 (fun H locs hP hD hS => ?_)
                  rw [bR_up0] at hP hD
                  refine lv_aload_n hx hb dX5_sheet_76 rfl (lv_at hl 0 rfl) ?_
                  refine va_get (D := D) (ci := 4) (v := .ref (r 8)) (C := RX5) (T := TX5) (N := 18) hx hb hts (iT_X5_sheet_X5) hown hK hP 0 rfl rfl 9 (by decide) (hts (.fieldLink RX5 31 "WordSupperModel" "sizes" "[I") (by decide +kernel)) (fun _ h9 => h9) rfl dX5_sheet_77 ?_
                  refine lv_iload_n hx hb dX5_sheet_80 rfl (lv_at hl 1 rfl) ?_
                  refine lv_iload_n hx hb dX5_sheet_81 rfl (lv_at hl 2 rfl) ?_
                  refine x_if_ne (tgt := 89) hx hb (by decide) dX5_sheet_82 (by decide) (fun c_82 => ?_) (fun c_82 => ?_)
                  · exact absurd c_82 (by decide)
                  · refine x_iconst hx hb dX5_sheet_85 ?_
                    refine lv_goto (tgt := 90) hx hb dX5_sheet_86 (by decide) ?_
                    refine x_iast hx hb hK hP hD hS 8 0 rfl rfl s1 rfl (by omega) (by decide) (wRo r ik tn j ++ (wA cI (r 1) 100 T ++ (wA cI (r 2) 100 K ++ (wA cI (r 3) 100 X ++ (wA cI (r 4) 100 Y ++ (wA cI (r 5) 8 (fR F) ++ (wA cI (r 6) 120 TB ++ (wA cI (r 7) 4 (bR (va_up SB s1 0)) ++ (wA cI (r 8) 4 (va_up SS s1 0) ++ (wA cI (r 9) 160 SN)))))))))) (by rw [← wA_up cI (r 8) 4 SS 0 s1 (by omega)]; rfl) dX5_sheet_90 (fun H locs hP hD hS => ?_)
                    refine x_iconst hx hb dX5_sheet_91 ?_
                    refine lv_istore (lv' := [(4, .int (iI 0)), (0, .ref (r 0)), (1, .int (iI ((s1 : Nat) : Int))), (2, .int (iI 0)), (3, .int (iI n))]) hx hb dX5_sheet_92 hl (by decide) rfl (fun ls hl => ?_)
                    have L94 : ∀ (k t : Nat) (Nt : Nat → Int) (H : Heap) (locs : List Loc) (ls : Array Slot), t + k = 40 → (zeF (40 * s1) k t Nt = zeF (40 * s1) 40 0 SN) → va_P D vwCl (wRo r ik tn j ++ (wA cI (r 1) 100 T ++ (wA cI (r 2) 100 K ++ (wA cI (r 3) 100 X ++ (wA cI (r 4) 100 Y ++ (wA cI (r 5) 8 (fR F) ++ (wA cI (r 6) 120 TB ++ (wA cI (r 7) 4 (bR (va_up SB s1 0)) ++ (wA cI (r 8) 4 (va_up SS s1 0) ++ (wA cI (r 9) 160 Nt)))))))))) H → va_D A (wRo r ik tn j ++ (wA cI (r 1) 100 T ++ (wA cI (r 2) 100 K ++ (wA cI (r 3) 100 X ++ (wA cI (r 4) 100 Y ++ (wA cI (r 5) 8 (fR F) ++ (wA cI (r 6) 120 TB ++ (wA cI (r 7) 4 (bR (va_up SB s1 0)) ++ (wA cI (r 8) 4 (va_up SS s1 0) ++ (wA cI (r 9) 160 Nt)))))))))) → va_S A s.heap H locs → lv_has ls 5 [(0, .ref (r 0)), (1, .int (iI ((s1 : Nat) : Int))), (2, .int (iI 0)), (3, .int (iI n)), (4, .int (iI ((t : Nat) : Int)))] → W pg l e { frames := 1, cells := 0, slots := 0, locals := 21 } s m args below meth c H locs 0 0 Q (F0 m 94 ls []) := by
                      intro k
                      induction k with
                      | zero =>
                        intro t Nt H locs ls hkt hr hP hD hS hl
                        refine lv_iload hx hb dX5_sheet_94 (lv_at hl 4 rfl) ?_
                        refine x_bipush hx hb dX5_sheet_96 (by decide) ?_
                        refine x_icmp_ge (tgt := 120) hx hb (by omega) (by decide) dX5_sheet_98 (by decide) (fun c_98 => ?_) (fun c_98 => ?_)
                        · refine lv_aload_n hx hb dX5_sheet_120 rfl (lv_at hl 0 rfl) ?_
                          refine va_get (D := D) (ci := 4) (v := .ref (r 8)) (C := RX5) (T := TX5) (N := 18) hx hb hts (iT_X5_sheet_X5) hown hK hP 0 rfl rfl 9 (by decide) (hts (.fieldLink RX5 31 "WordSupperModel" "sizes" "[I") (by decide +kernel)) (fun _ h9 => h9) rfl dX5_sheet_121 ?_
                          refine lv_iload_n hx hb dX5_sheet_124 rfl (lv_at hl 1 rfl) ?_
                          refine x_iald hx hb hK hP 8 0 rfl rfl s1 rfl (by omega) (by decide) ((va_up SS s1 0) s1) (gd_at _ (by omega)) dX5_sheet_125 ?_
                          exact kend (((va_up SS s1 0) s1, T, K, ik, (va_up SB s1 0), (va_up SS s1 0), Nt, tn, TB, F), X, Y, j) hP hS rfl (by unfold m_sheet; rw [if_neg (by omega), if_neg (by omega), if_neg (by omega), if_pos rfl, Int.toNat_natCast, ← hr, up_s] <;> rfl) dX5_sheet_126
                        · exfalso; omega
                      | succ k ih =>
                        intro t Nt H locs ls hkt hr hP hD hS hl
                        refine lv_iload hx hb dX5_sheet_94 (lv_at hl 4 rfl) ?_
                        refine x_bipush hx hb dX5_sheet_96 (by decide) ?_
                        refine x_icmp_ge (tgt := 120) hx hb (by omega) (by decide) dX5_sheet_98 (by decide) (fun c_98 => ?_) (fun c_98 => ?_)
                        · exfalso; omega
                        · refine lv_aload_n hx hb dX5_sheet_101 rfl (lv_at hl 0 rfl) ?_
                          refine va_get (D := D) (ci := 4) (v := .ref (r 9)) (C := RX5) (T := TX5) (N := 18) hx hb hts (iT_X5_sheet_X5) hown hK hP 0 rfl rfl 10 (by decide) (hts (.fieldLink RX5 34 "WordSupperModel" "numbers" "[I") (by decide +kernel)) (fun _ h9 => h9) rfl dX5_sheet_102 ?_
                          refine x_bipush hx hb dX5_sheet_105 (by decide) ?_
                          refine lv_iload_n hx hb dX5_sheet_107 rfl (lv_at hl 1 rfl) ?_
                          refine x_imul hx hb dX5_sheet_108 ?_
                          refine x_topi ((40 * s1 : Nat) : Int) (by omega) ?_
                          refine lv_iload hx hb dX5_sheet_109 (lv_at hl 4 rfl) ?_
                          refine x_iadd hx hb dX5_sheet_111 ?_
                          refine x_topi (((40 * s1) + t : Nat) : Int) (by omega) ?_
                          refine x_iconst hx hb dX5_sheet_112 ?_
                          refine x_iast hx hb hK hP hD hS 9 0 rfl rfl ((40 * s1) + t) rfl (by omega) (by decide) (wRo r ik tn j ++ (wA cI (r 1) 100 T ++ (wA cI (r 2) 100 K ++ (wA cI (r 3) 100 X ++ (wA cI (r 4) 100 Y ++ (wA cI (r 5) 8 (fR F) ++ (wA cI (r 6) 120 TB ++ (wA cI (r 7) 4 (bR (va_up SB s1 0)) ++ (wA cI (r 8) 4 (va_up SS s1 0) ++ (wA cI (r 9) 160 (va_up Nt ((40 * s1) + t) 0))))))))))) (by rw [← wA_up cI (r 9) 160 Nt 0 ((40 * s1) + t) (by omega)]; rfl) dX5_sheet_113 (fun H locs hP hD hS => ?_)
                          refine x_iinc hx hb 4 ((t + 1 : Nat) : Int) (by omega) [(4, .int (iI ((t + 1 : Nat) : Int))), (0, .ref (r 0)), (1, .int (iI ((s1 : Nat) : Int))), (2, .int (iI 0)), (3, .int (iI n))] dX5_sheet_114 hl rfl (by decide) rfl (fun ls hl => ?_)
                          refine lv_goto (tgt := 94) hx hb dX5_sheet_117 (by decide) ?_
                          exact ih (t + 1) (va_up Nt ((40 * s1) + t) 0) _ _ _ (by omega) hr hP hD hS (lv_sub hl [1, 2, 3, 4, 0] rfl)
                    exact L94 40 0 SN _ _ _ (by omega) rfl hP hD hS (lv_sub hl [1, 2, 3, 4, 0] rfl)
              · refine lv_aload_n hx hb dX5_sheet_54 rfl (lv_at hl 0 rfl) ?_
                refine x_ldc hx hb (-1000001) rfl hown (hts (.constant RX5 37 (-1000001)) (by decide +kernel)) dX5_sheet_55 ?_
                refine x_callV (As := [.int (iI (-1000001))]) (rest := []) ⟨hx, hb, hml, hown, hts⟩ (kX5_finds r ik tn j F (-1000001) 0 (by omega) (by omega)) (cwV 1 hts gX5_sheet_X5_finds rfl rfl rfl ykVX5_finds ⟨Nat.le_of_ble_eq_true rfl, Nat.le_of_ble_eq_true rfl⟩) hP hK hD hS 0 4 rfl rfl rfl [0, 5] rfl (by decide) (fun _ => rfl) (fun _ => wRo r ik tn j ++ (wA cI (r 1) 100 T ++ (wA cI (r 2) 100 K ++ (wA cI (r 3) 100 X ++ (wA cI (r 4) 100 Y ++ (wA cI (r 5) 8 (fR (bmp 0 F)) ++ (wA cI (r 6) 120 TB ++ (wA cI (r 7) 4 (bR SB) ++ (wA cI (r 8) 4 SS ++ (wA cI (r 9) 160 SN)))))))))) (fun _ => rfl) rfl hl.1 rfl (Nat.le_of_ble_eq_true rfl) dX5_sheet_57 ⟨Nat.le_of_ble_eq_true rfl, Nat.le_of_ble_eq_true rfl⟩ (fun _ H locs _ hP hD hS => ?_)
                refine W.eq (g2 := F0 m 60 ls [.int (iI (-1000001))]) rfl ?_
                exact kend (((-1000001), T, K, ik, SB, SS, SN, tn, TB, (bmp 0 F)), X, Y, j) hP hS rfl (by first | exact ((if_pos (by omega))).symm | exact (((if_neg (by omega)).trans ((if_neg (by omega)).trans (if_pos (by omega))))).symm) dX5_sheet_60
            · refine lv_aload_n hx hb dX5_sheet_40 rfl (lv_at hl 0 rfl) ?_
              refine x_ldcw hx hb (-1000007) rfl hown (hts (.constant RX5 281 (-1000007)) (by decide +kernel)) dX5_sheet_41 ?_
              refine x_callV (As := [.int (iI (-1000007))]) (rest := []) ⟨hx, hb, hml, hown, hts⟩ (kX5_finds r ik tn j F (-1000007) 6 (by omega) (by omega)) (cwV 1 hts gX5_sheet_X5_finds rfl rfl rfl ykVX5_finds ⟨Nat.le_of_ble_eq_true rfl, Nat.le_of_ble_eq_true rfl⟩) hP hK hD hS 0 4 rfl rfl rfl [0, 5] rfl (by decide) (fun _ => rfl) (fun _ => wRo r ik tn j ++ (wA cI (r 1) 100 T ++ (wA cI (r 2) 100 K ++ (wA cI (r 3) 100 X ++ (wA cI (r 4) 100 Y ++ (wA cI (r 5) 8 (fR (bmp 6 F)) ++ (wA cI (r 6) 120 TB ++ (wA cI (r 7) 4 (bR SB) ++ (wA cI (r 8) 4 SS ++ (wA cI (r 9) 160 SN)))))))))) (fun _ => rfl) rfl hl.1 rfl (Nat.le_of_ble_eq_true rfl) dX5_sheet_44 ⟨Nat.le_of_ble_eq_true rfl, Nat.le_of_ble_eq_true rfl⟩ (fun _ H locs _ hP hD hS => ?_)
              refine W.eq (g2 := F0 m 47 ls [.int (iI (-1000007))]) rfl ?_
              exact kend (((-1000007), T, K, ik, SB, SS, SN, tn, TB, (bmp 6 F)), X, Y, j) hP hS rfl (((if_neg (by omega)).trans (if_pos (by omega)))).symm dX5_sheet_47
          · refine lv_aload_n hx hb dX5_sheet_29 rfl (lv_at hl 0 rfl) ?_
            refine x_ldc hx hb (-1000001) rfl hown (hts (.constant RX5 37 (-1000001)) (by decide +kernel)) dX5_sheet_30 ?_
            refine x_callV (As := [.int (iI (-1000001))]) (rest := []) ⟨hx, hb, hml, hown, hts⟩ (kX5_finds r ik tn j F (-1000001) 0 (by omega) (by omega)) (cwV 1 hts gX5_sheet_X5_finds rfl rfl rfl ykVX5_finds ⟨Nat.le_of_ble_eq_true rfl, Nat.le_of_ble_eq_true rfl⟩) hP hK hD hS 0 4 rfl rfl rfl [0, 5] rfl (by decide) (fun _ => rfl) (fun _ => wRo r ik tn j ++ (wA cI (r 1) 100 T ++ (wA cI (r 2) 100 K ++ (wA cI (r 3) 100 X ++ (wA cI (r 4) 100 Y ++ (wA cI (r 5) 8 (fR (bmp 0 F)) ++ (wA cI (r 6) 120 TB ++ (wA cI (r 7) 4 (bR SB) ++ (wA cI (r 8) 4 SS ++ (wA cI (r 9) 160 SN)))))))))) (fun _ => rfl) rfl hl.1 rfl (Nat.le_of_ble_eq_true rfl) dX5_sheet_32 ⟨Nat.le_of_ble_eq_true rfl, Nat.le_of_ble_eq_true rfl⟩ (fun _ H locs _ hP hD hS => ?_)
            refine W.eq (g2 := F0 m 35 ls [.int (iI (-1000001))]) rfl ?_
            exact kend (((-1000001), T, K, ik, SB, SS, SN, tn, TB, (bmp 0 F)), X, Y, j) hP hS rfl (by first | exact ((if_pos (by omega))).symm | exact (((if_neg (by omega)).trans ((if_neg (by omega)).trans (if_pos (by omega))))).symm) dX5_sheet_35
theorem ykSX5_write : yX5_write.cls ≠ "java/lang/invoke/MethodHandle" ∧ yX5_write.cls ≠ "java/lang/invoke/VarHandle" ∧ (parseMethodDescriptor yX5_write.desc).map (fun d => d.parameters.length) = some 3 := by decide +kernel
theorem ykVX5_write : yX5_write.cls = RX5 ∧ yX5_write.cls ≠ "java/lang/invoke/MethodHandle" ∧ yX5_write.cls ≠ "java/lang/invoke/VarHandle" ∧ (parseMethodDescriptor yX5_write.desc).map (fun d => d.parameters.length) = some 3 := ⟨rfl, ykSX5_write⟩
set_option maxRecDepth 20000 in
theorem iT_X5_write_X5 : ∀ w ∈ u_ws RX5 TX5 18, w ∈ wsX5_write := by decide +kernel
set_option maxHeartbeats 4000000 in
set_option maxRecDepth 100000 in
theorem kX5_write {l : Launch} {D : va_G} {cI cB : ClassId} (r : Nat → Nat) (T K : Tb) (ik : Int) (SB SS SN : Nat → Int) (tn : Int) (TB F : Nat → Int) (X Y : Tb) (j : Nat → Int) (s0 i v : Int) (B : Int) (hG : GI B T K ik SB SS SN tn TB F) (hB : B ≤ 40000) (h_s0 : rI s0) (h_i : rI i) (h_v : rI v) : Ct l yX5_write wsX5_write 1 25 D [(cI, .int), (cB, .byte)] [.ref (r 0), .int (iI s0), .int (iI i), .int (iI v)] (wM cI r (T, K, ik, SB, SS, SN, tn, TB, F) X Y j) (S := (Int × Gs) × Tb × Tb × (Nat → Int)) (fun u => some (.int (iI u.1.1))) (fun u => u.1 = m_write s0 i v T K ik SB SS SN tn TB F) (fun u => wM cI r u.1.2 u.2.1 u.2.2.1 u.2.2.2) := by
  refine CtI.of (cc := cX5_write) (maxL := 4) (by decide +kernel) rfl (Nat.le_of_ble_eq_true rfl) ?_
  intro pg e s m args below meth c Q A hx hb hml hts hown hP hK hD hS ls hl kend
  have hown : s.vm.findClass RX5 = some m.cls := hown
  have hl : lv_has ls 4 [(0, .ref (r 0)), (1, .int (iI s0)), (2, .int (iI i)), (3, .int (iI v))] := hl
  obtain ⟨hI, hIK, hik, hSB, hSS, hSN, htn, hTB, hF⟩ := id hG
  have hn := Inv_n hI
  have hdy := Inv_d hI
  have hP : va_P D vwCl (wRo r ik tn j ++ (wA cI (r 1) 100 T ++ (wA cI (r 2) 100 K ++ (wA cI (r 3) 100 X ++ (wA cI (r 4) 100 Y ++ (wA cI (r 5) 8 (fR F) ++ (wA cI (r 6) 120 TB ++ (wA cI (r 7) 4 (bR SB) ++ (wA cI (r 8) 4 SS ++ (wA cI (r 9) 160 SN)))))))))) s.heap := hP
  have hD : va_D A (wRo r ik tn j ++ (wA cI (r 1) 100 T ++ (wA cI (r 2) 100 K ++ (wA cI (r 3) 100 X ++ (wA cI (r 4) 100 Y ++ (wA cI (r 5) 8 (fR F) ++ (wA cI (r 6) 120 TB ++ (wA cI (r 7) 4 (bR SB) ++ (wA cI (r 8) 4 SS ++ (wA cI (r 9) 160 SN)))))))))) := hD
  refine lv_iload_n hx hb dX5_write_0 rfl (lv_at hl 1 rfl) ?_
  refine x_callS (As := [.int (iI s0)]) (rest := []) ⟨hx, hb, hml, hown, hts⟩ (kX5_isSheet s0 (by omega)) (va_cwS 1 hts gX5_write_X5_isSheet rfl rfl rfl ykSX5_isSheet ⟨Nat.le_of_ble_eq_true rfl, Nat.le_of_ble_eq_true rfl⟩) hP hK hD hS [] rfl (by decide) (fun _ => rfl) (fun _ => wRo r ik tn j ++ (wA cI (r 1) 100 T ++ (wA cI (r 2) 100 K ++ (wA cI (r 3) 100 X ++ (wA cI (r 4) 100 Y ++ (wA cI (r 5) 8 (fR F) ++ (wA cI (r 6) 120 TB ++ (wA cI (r 7) 4 (bR SB) ++ (wA cI (r 8) 4 SS ++ (wA cI (r 9) 160 SN)))))))))) (fun _ => rfl) rfl hl.1 rfl (Nat.le_of_ble_eq_true rfl) dX5_write_1 ⟨Nat.le_of_ble_eq_true rfl, Nat.le_of_ble_eq_true rfl⟩ (fun _ H locs _ hP hD hS => ?_)
  refine W.eq (g2 := F0 m 4 ls [.int (iI (b2 (decide (0 ≤ s0 ∧ s0 < 4))))]) rfl ?_
  refine x_ifb_ne (tgt := 14) hx hb dX5_write_4 (by decide) (fun c_4 => ?_) (fun c_4 => ?_)
  · obtain ⟨s1, rfl⟩ : ∃ s1 : Nat, s0 = (s1 : Int) := ⟨s0.toNat, by omega⟩
    have hbr := bR_c SB s1
    have hv := hSB s1 (by omega)
    have hz := hSS s1 (by omega)
    refine lv_aload_n hx hb dX5_write_14 rfl (lv_at hl 0 rfl) ?_
    refine va_get (D := D) (ci := 4) (v := .ref (r 7)) (C := RX5) (T := TX5) (N := 18) hx hb hts (iT_X5_write_X5) hown hK hP 0 rfl rfl 8 (by decide) (hts (.fieldLink RX5 28 "WordSupperModel" "bitsOf" "[I") (by decide +kernel)) (fun _ h9 => h9) rfl dX5_write_15 ?_
    refine lv_iload_n hx hb dX5_write_18 rfl (lv_at hl 1 rfl) ?_
    refine x_iald hx hb hK hP 7 0 rfl rfl s1 rfl (by omega) (by decide) ((bR SB) s1) (gd_at _ (by omega)) dX5_write_19 ?_
    refine x_if_ge (tgt := 31) hx hb (by omega) dX5_write_20 (by decide) (fun c_20 => ?_) (fun c_20 => ?_)
    · refine lv_iload_n hx hb dX5_write_31 rfl (lv_at hl 2 rfl) ?_
      refine x_i2l hx hb (by omega) dX5_write_32 ?_
      refine x_lconst hx hb 0 rfl dX5_write_33 ?_
      refine lv_aload_n hx hb dX5_write_34 rfl (lv_at hl 0 rfl) ?_
      refine va_get (D := D) (ci := 4) (v := .ref (r 8)) (C := RX5) (T := TX5) (N := 18) hx hb hts (iT_X5_write_X5) hown hK hP 0 rfl rfl 9 (by decide) (hts (.fieldLink RX5 31 "WordSupperModel" "sizes" "[I") (by decide +kernel)) (fun _ h9 => h9) rfl dX5_write_35 ?_
      refine lv_iload_n hx hb dX5_write_38 rfl (lv_at hl 1 rfl) ?_
      refine x_iald hx hb hK hP 8 0 rfl rfl s1 rfl (by omega) (by decide) (SS s1) (gd_at _ (by omega)) dX5_write_39 ?_
      refine x_iconst hx hb dX5_write_40 ?_
      refine x_isub hx hb dX5_write_41 ?_
      refine x_i2l hx hb (by omega) dX5_write_42 ?_
      refine x_callS (As := [.long (lI i), .long (lI 0), .long (lI ((SS s1) - 1))]) (rest := []) ⟨hx, hb, hml, hown, hts⟩ (kX5_isIn i 0 ((SS s1) - 1) (by omega) (by omega) (by omega)) (va_cwS 3 hts gX5_write_X5_isIn rfl rfl rfl ykSX5_isIn ⟨Nat.le_of_ble_eq_true rfl, Nat.le_of_ble_eq_true rfl⟩) hP hK hD hS [] rfl (by decide) (fun _ => rfl) (fun _ => wRo r ik tn j ++ (wA cI (r 1) 100 T ++ (wA cI (r 2) 100 K ++ (wA cI (r 3) 100 X ++ (wA cI (r 4) 100 Y ++ (wA cI (r 5) 8 (fR F) ++ (wA cI (r 6) 120 TB ++ (wA cI (r 7) 4 (bR SB) ++ (wA cI (r 8) 4 SS ++ (wA cI (r 9) 160 SN)))))))))) (fun _ => rfl) rfl hl.1 rfl (Nat.le_of_ble_eq_true rfl) dX5_write_43 ⟨Nat.le_of_ble_eq_true rfl, Nat.le_of_ble_eq_true rfl⟩ (fun _ H locs _ hP hD hS => ?_)
      refine W.eq (g2 := F0 m 46 ls [.int (iI (b2 (decide (0 ≤ i ∧ i ≤ ((SS s1) - 1)))))]) rfl ?_
      refine x_ifb_ne (tgt := 56) hx hb dX5_write_46 (by decide) (fun c_46 => ?_) (fun c_46 => ?_)
      · obtain ⟨i1, rfl⟩ : ∃ i1 : Nat, i = (i1 : Int) := ⟨i.toNat, by omega⟩
        refine lv_aload_n hx hb dX5_write_56 rfl (lv_at hl 0 rfl) ?_
        refine va_get (D := D) (ci := 4) (v := .ref (r 9)) (C := RX5) (T := TX5) (N := 18) hx hb hts (iT_X5_write_X5) hown hK hP 0 rfl rfl 10 (by decide) (hts (.fieldLink RX5 34 "WordSupperModel" "numbers" "[I") (by decide +kernel)) (fun _ h9 => h9) rfl dX5_write_57 ?_
        refine x_bipush hx hb dX5_write_60 (by decide) ?_
        refine lv_iload_n hx hb dX5_write_62 rfl (lv_at hl 1 rfl) ?_
        refine x_imul hx hb dX5_write_63 ?_
        refine x_topi ((40 * s1 : Nat) : Int) (by omega) ?_
        refine lv_iload_n hx hb dX5_write_64 rfl (lv_at hl 2 rfl) ?_
        refine x_iadd hx hb dX5_write_65 ?_
        refine x_topi (((40 * s1) + i1 : Nat) : Int) (by omega) ?_
        refine lv_aload_n hx hb dX5_write_66 rfl (lv_at hl 0 rfl) ?_
        refine va_get (D := D) (ci := 4) (v := .ref (r 7)) (C := RX5) (T := TX5) (N := 18) hx hb hts (iT_X5_write_X5) hown hK hP 0 rfl rfl 8 (by decide) (hts (.fieldLink RX5 28 "WordSupperModel" "bitsOf" "[I") (by decide +kernel)) (fun _ h9 => h9) rfl dX5_write_67 ?_
        refine lv_iload_n hx hb dX5_write_70 rfl (lv_at hl 1 rfl) ?_
        refine x_iald hx hb hK hP 7 0 rfl rfl s1 rfl (by omega) (by decide) ((bR SB) s1) (gd_at _ (by omega)) dX5_write_71 ?_
        refine x_bipush hx hb dX5_write_72 (by decide) ?_
        refine x_icmp_ne (tgt := 82) hx hb (by omega) (by decide) dX5_write_74 (by decide) (fun c_74 => ?_) (fun c_74 => ?_)
        · refine lv_aload_n hx hb dX5_write_82 rfl (lv_at hl 0 rfl) ?_
          refine va_get (D := D) (ci := 4) (v := .ref (r 7)) (C := RX5) (T := TX5) (N := 18) hx hb hts (iT_X5_write_X5) hown hK hP 0 rfl rfl 8 (by decide) (hts (.fieldLink RX5 28 "WordSupperModel" "bitsOf" "[I") (by decide +kernel)) (fun _ h9 => h9) rfl dX5_write_83 ?_
          refine lv_iload_n hx hb dX5_write_86 rfl (lv_at hl 1 rfl) ?_
          refine x_iald hx hb hK hP 7 0 rfl rfl s1 rfl (by omega) (by decide) ((bR SB) s1) (gd_at _ (by omega)) dX5_write_87 ?_
          refine x_bipush hx hb dX5_write_88 (by decide) ?_
          refine x_icmp_ne (tgt := 98) hx hb (by omega) (by decide) dX5_write_90 (by decide) (fun c_90 => ?_) (fun c_90 => ?_)
          · refine lv_iload_n hx hb dX5_write_98 rfl (lv_at hl 3 rfl) ?_
            refine x_iast hx hb hK hP hD hS 9 0 rfl rfl ((40 * s1) + i1) rfl (by omega) (by decide) (wRo r ik tn j ++ (wA cI (r 1) 100 T ++ (wA cI (r 2) 100 K ++ (wA cI (r 3) 100 X ++ (wA cI (r 4) 100 Y ++ (wA cI (r 5) 8 (fR F) ++ (wA cI (r 6) 120 TB ++ (wA cI (r 7) 4 (bR SB) ++ (wA cI (r 8) 4 SS ++ (wA cI (r 9) 160 (va_up SN ((40 * s1) + i1) v))))))))))) (by rw [← wA_up cI (r 9) 160 SN v ((40 * s1) + i1) (by omega)]; rfl) dX5_write_99 (fun H locs hP hD hS => ?_)
            refine x_iconst hx hb dX5_write_100 ?_
            exact kend ((1, T, K, ik, SB, SS, (va_up SN ((40 * s1) + i1) v), tn, TB, F), X, Y, j) hP hS rfl (by unfold m_write; rw [waF_00 (by omega) (show SB s1 ≠ 0 by omega)]; simp only [Int.toNat_natCast]; rw [if_neg (by decide), if_pos (by omega)]; unfold ctF; rw [if_neg (show ¬ SB s1 = 8 by omega), if_neg (show ¬ SB s1 = 16 by omega)]) dX5_write_101
          · refine lv_iload_n hx hb dX5_write_93 rfl (lv_at hl 3 rfl) ?_
            refine x_i2s hx hb dX5_write_94 ?_
            refine lv_goto (tgt := 99) hx hb dX5_write_95 (by decide) ?_
            refine x_iast hx hb hK hP hD hS 9 0 rfl rfl ((40 * s1) + i1) rfl (by omega) (by decide) (wRo r ik tn j ++ (wA cI (r 1) 100 T ++ (wA cI (r 2) 100 K ++ (wA cI (r 3) 100 X ++ (wA cI (r 4) 100 Y ++ (wA cI (r 5) 8 (fR F) ++ (wA cI (r 6) 120 TB ++ (wA cI (r 7) 4 (bR SB) ++ (wA cI (r 8) 4 SS ++ (wA cI (r 9) 160 (va_up SN ((40 * s1) + i1) (shortI v)))))))))))) (by rw [← wA_up cI (r 9) 160 SN (shortI v) ((40 * s1) + i1) (by omega)]; rfl) dX5_write_99 (fun H locs hP hD hS => ?_)
            refine x_iconst hx hb dX5_write_100 ?_
            exact kend ((1, T, K, ik, SB, SS, (va_up SN ((40 * s1) + i1) (shortI v)), tn, TB, F), X, Y, j) hP hS rfl (by unfold m_write; rw [waF_00 (by omega) (show SB s1 ≠ 0 by omega)]; simp only [Int.toNat_natCast]; rw [if_neg (by decide), if_pos (by omega)]; unfold ctF; rw [if_neg (show ¬ SB s1 = 8 by omega), if_pos (show SB s1 = 16 by omega)]) dX5_write_101
        · refine lv_iload_n hx hb dX5_write_77 rfl (lv_at hl 3 rfl) ?_
          refine x_i2b hx hb dX5_write_78 ?_
          refine lv_goto (tgt := 99) hx hb dX5_write_79 (by decide) ?_
          refine x_iast hx hb hK hP hD hS 9 0 rfl rfl ((40 * s1) + i1) rfl (by omega) (by decide) (wRo r ik tn j ++ (wA cI (r 1) 100 T ++ (wA cI (r 2) 100 K ++ (wA cI (r 3) 100 X ++ (wA cI (r 4) 100 Y ++ (wA cI (r 5) 8 (fR F) ++ (wA cI (r 6) 120 TB ++ (wA cI (r 7) 4 (bR SB) ++ (wA cI (r 8) 4 SS ++ (wA cI (r 9) 160 (va_up SN ((40 * s1) + i1) (byteI v)))))))))))) (by rw [← wA_up cI (r 9) 160 SN (byteI v) ((40 * s1) + i1) (by omega)]; rfl) dX5_write_99 (fun H locs hP hD hS => ?_)
          refine x_iconst hx hb dX5_write_100 ?_
          exact kend ((1, T, K, ik, SB, SS, (va_up SN ((40 * s1) + i1) (byteI v)), tn, TB, F), X, Y, j) hP hS rfl (by unfold m_write; rw [waF_00 (by omega) (show SB s1 ≠ 0 by omega)]; simp only [Int.toNat_natCast]; rw [if_neg (by decide), if_pos (by omega)]; unfold ctF; rw [if_pos (show SB s1 = 8 by omega)]) dX5_write_101
      · refine lv_aload_n hx hb dX5_write_49 rfl (lv_at hl 0 rfl) ?_
        refine x_ldc hx hb (-1000001) rfl hown (hts (.constant RX5 37 (-1000001)) (by decide +kernel)) dX5_write_50 ?_
        refine x_callV (As := [.int (iI (-1000001))]) (rest := []) ⟨hx, hb, hml, hown, hts⟩ (kX5_finds r ik tn j F (-1000001) 0 (by omega) (by omega)) (cwV 1 hts gX5_write_X5_finds rfl rfl rfl ykVX5_finds ⟨Nat.le_of_ble_eq_true rfl, Nat.le_of_ble_eq_true rfl⟩) hP hK hD hS 0 4 rfl rfl rfl [0, 5] rfl (by decide) (fun _ => rfl) (fun _ => wRo r ik tn j ++ (wA cI (r 1) 100 T ++ (wA cI (r 2) 100 K ++ (wA cI (r 3) 100 X ++ (wA cI (r 4) 100 Y ++ (wA cI (r 5) 8 (fR (bmp 0 F)) ++ (wA cI (r 6) 120 TB ++ (wA cI (r 7) 4 (bR SB) ++ (wA cI (r 8) 4 SS ++ (wA cI (r 9) 160 SN)))))))))) (fun _ => rfl) rfl hl.1 rfl (Nat.le_of_ble_eq_true rfl) dX5_write_52 ⟨Nat.le_of_ble_eq_true rfl, Nat.le_of_ble_eq_true rfl⟩ (fun _ H locs _ hP hD hS => ?_)
        refine W.eq (g2 := F0 m 55 ls [.int (iI (-1000001))]) rfl ?_
        exact kend (((-1000001), T, K, ik, SB, SS, SN, tn, TB, (bmp 0 F)), X, Y, j) hP hS rfl (by unfold m_write; rw [waF_00 (by omega) (show SB s1 ≠ 0 by omega)]; simp only [Int.toNat_natCast]; rw [if_neg (by decide), if_neg (by omega)]; rfl) dX5_write_55
    · refine lv_aload_n hx hb dX5_write_23 rfl (lv_at hl 0 rfl) ?_
      refine x_ldcw hx hb (-1000006) rfl hown (hts (.constant RX5 273 (-1000006)) (by decide +kernel)) dX5_write_24 ?_
      refine x_callV (As := [.int (iI (-1000006))]) (rest := []) ⟨hx, hb, hml, hown, hts⟩ (kX5_finds r ik tn j F (-1000006) 5 (by omega) (by omega)) (cwV 1 hts gX5_write_X5_finds rfl rfl rfl ykVX5_finds ⟨Nat.le_of_ble_eq_true rfl, Nat.le_of_ble_eq_true rfl⟩) hP hK hD hS 0 4 rfl rfl rfl [0, 5] rfl (by decide) (fun _ => rfl) (fun _ => wRo r ik tn j ++ (wA cI (r 1) 100 T ++ (wA cI (r 2) 100 K ++ (wA cI (r 3) 100 X ++ (wA cI (r 4) 100 Y ++ (wA cI (r 5) 8 (fR (bmp 5 F)) ++ (wA cI (r 6) 120 TB ++ (wA cI (r 7) 4 (bR SB) ++ (wA cI (r 8) 4 SS ++ (wA cI (r 9) 160 SN)))))))))) (fun _ => rfl) rfl hl.1 rfl (Nat.le_of_ble_eq_true rfl) dX5_write_27 ⟨Nat.le_of_ble_eq_true rfl, Nat.le_of_ble_eq_true rfl⟩ (fun _ H locs _ hP hD hS => ?_)
      refine W.eq (g2 := F0 m 30 ls [.int (iI (-1000006))]) rfl ?_
      exact kend (((-1000006), T, K, ik, SB, SS, SN, tn, TB, (bmp 5 F)), X, Y, j) hP hS rfl (by unfold m_write; rw [waF_6 (by omega) (show SB s1 = 0 by omega)]; rfl) dX5_write_30
  · refine lv_aload_n hx hb dX5_write_7 rfl (lv_at hl 0 rfl) ?_
    refine x_ldc hx hb (-1000001) rfl hown (hts (.constant RX5 37 (-1000001)) (by decide +kernel)) dX5_write_8 ?_
    refine x_callV (As := [.int (iI (-1000001))]) (rest := []) ⟨hx, hb, hml, hown, hts⟩ (kX5_finds r ik tn j F (-1000001) 0 (by omega) (by omega)) (cwV 1 hts gX5_write_X5_finds rfl rfl rfl ykVX5_finds ⟨Nat.le_of_ble_eq_true rfl, Nat.le_of_ble_eq_true rfl⟩) hP hK hD hS 0 4 rfl rfl rfl [0, 5] rfl (by decide) (fun _ => rfl) (fun _ => wRo r ik tn j ++ (wA cI (r 1) 100 T ++ (wA cI (r 2) 100 K ++ (wA cI (r 3) 100 X ++ (wA cI (r 4) 100 Y ++ (wA cI (r 5) 8 (fR (bmp 0 F)) ++ (wA cI (r 6) 120 TB ++ (wA cI (r 7) 4 (bR SB) ++ (wA cI (r 8) 4 SS ++ (wA cI (r 9) 160 SN)))))))))) (fun _ => rfl) rfl hl.1 rfl (Nat.le_of_ble_eq_true rfl) dX5_write_10 ⟨Nat.le_of_ble_eq_true rfl, Nat.le_of_ble_eq_true rfl⟩ (fun _ H locs _ hP hD hS => ?_)
    refine W.eq (g2 := F0 m 13 ls [.int (iI (-1000001))]) rfl ?_
    exact kend (((-1000001), T, K, ik, SB, SS, SN, tn, TB, (bmp 0 F)), X, Y, j) hP hS rfl (by unfold m_write; rw [waF_1 (by omega)]; rfl) dX5_write_13
theorem ykSX5_copy : yX5_copy.cls ≠ "java/lang/invoke/MethodHandle" ∧ yX5_copy.cls ≠ "java/lang/invoke/VarHandle" ∧ (parseMethodDescriptor yX5_copy.desc).map (fun d => d.parameters.length) = some 5 := by decide +kernel
theorem ykVX5_copy : yX5_copy.cls = RX5 ∧ yX5_copy.cls ≠ "java/lang/invoke/MethodHandle" ∧ yX5_copy.cls ≠ "java/lang/invoke/VarHandle" ∧ (parseMethodDescriptor yX5_copy.desc).map (fun d => d.parameters.length) = some 5 := ⟨rfl, ykSX5_copy⟩
set_option maxRecDepth 20000 in
theorem iT_X5_copy_X5 : ∀ w ∈ u_ws RX5 TX5 18, w ∈ wsX5_copy := by decide +kernel
set_option maxHeartbeats 4000000 in
set_option maxRecDepth 100000 in
theorem kX5_copy {l : Launch} {D : va_G} {cI cB : ClassId} (r : Nat → Nat) (T K : Tb) (ik : Int) (SB SS SN : Nat → Int) (tn : Int) (TB F : Nat → Int) (X Y : Tb) (j : Nat → Int) (s0 a0 t2 c0 n : Int) (B : Int) (hG : GI B T K ik SB SS SN tn TB F) (hB : B ≤ 40000) (h_s0 : rI s0) (h_a0 : rI a0) (h_t2 : rI t2) (h_c0 : rI c0) (h_n : rI n) : Ct l yX5_copy wsX5_copy 1 21 D [(cI, .int), (cB, .byte)] [.ref (r 0), .int (iI s0), .int (iI a0), .int (iI t2), .int (iI c0), .int (iI n)] (wM cI r (T, K, ik, SB, SS, SN, tn, TB, F) X Y j) (S := (Int × Gs) × Tb × Tb × (Nat → Int)) (fun u => some (.int (iI u.1.1))) (fun u => u.1 = m_copy s0 a0 t2 c0 n T K ik SB SS SN tn TB F) (fun u => wM cI r u.1.2 u.2.1 u.2.2.1 u.2.2.2) := by
  refine CtI.of (cc := cX5_copy) (maxL := 10) (by decide +kernel) rfl (Nat.le_of_ble_eq_true rfl) ?_
  intro pg e s m args below meth c Q A hx hb hml hts hown hP hK hD hS ls hl kend
  have hown : s.vm.findClass RX5 = some m.cls := hown
  have hl : lv_has ls 10 [(0, .ref (r 0)), (1, .int (iI s0)), (2, .int (iI a0)), (3, .int (iI t2)), (4, .int (iI c0)), (5, .int (iI n))] := hl
  obtain ⟨hI, hIK, hik, hSB, hSS, hSN, htn, hTB, hF⟩ := id hG
  have hn := Inv_n hI
  have hdy := Inv_d hI
  have hP : va_P D vwCl (wRo r ik tn j ++ (wA cI (r 1) 100 T ++ (wA cI (r 2) 100 K ++ (wA cI (r 3) 100 X ++ (wA cI (r 4) 100 Y ++ (wA cI (r 5) 8 (fR F) ++ (wA cI (r 6) 120 TB ++ (wA cI (r 7) 4 (bR SB) ++ (wA cI (r 8) 4 SS ++ (wA cI (r 9) 160 SN)))))))))) s.heap := hP
  have hD : va_D A (wRo r ik tn j ++ (wA cI (r 1) 100 T ++ (wA cI (r 2) 100 K ++ (wA cI (r 3) 100 X ++ (wA cI (r 4) 100 Y ++ (wA cI (r 5) 8 (fR F) ++ (wA cI (r 6) 120 TB ++ (wA cI (r 7) 4 (bR SB) ++ (wA cI (r 8) 4 SS ++ (wA cI (r 9) 160 SN)))))))))) := hD
  refine lv_iload_n hx hb dX5_copy_0 rfl (lv_at hl 1 rfl) ?_
  refine x_callS (As := [.int (iI s0)]) (rest := []) ⟨hx, hb, hml, hown, hts⟩ (kX5_isSheet s0 (by omega)) (va_cwS 1 hts gX5_copy_X5_isSheet rfl rfl rfl ykSX5_isSheet ⟨Nat.le_of_ble_eq_true rfl, Nat.le_of_ble_eq_true rfl⟩) hP hK hD hS [] rfl (by decide) (fun _ => rfl) (fun _ => wRo r ik tn j ++ (wA cI (r 1) 100 T ++ (wA cI (r 2) 100 K ++ (wA cI (r 3) 100 X ++ (wA cI (r 4) 100 Y ++ (wA cI (r 5) 8 (fR F) ++ (wA cI (r 6) 120 TB ++ (wA cI (r 7) 4 (bR SB) ++ (wA cI (r 8) 4 SS ++ (wA cI (r 9) 160 SN)))))))))) (fun _ => rfl) rfl hl.1 rfl (Nat.le_of_ble_eq_true rfl) dX5_copy_1 ⟨Nat.le_of_ble_eq_true rfl, Nat.le_of_ble_eq_true rfl⟩ (fun _ H locs _ hP hD hS => ?_)
  refine W.eq (g2 := F0 m 4 ls [.int (iI (b2 (decide (0 ≤ s0 ∧ s0 < 4))))]) rfl ?_
  refine x_ifb_eq (tgt := 14) hx hb dX5_copy_4 (by decide) (fun c_4 => ?_) (fun c_4 => ?_)
  · refine lv_aload_n hx hb dX5_copy_14 rfl (lv_at hl 0 rfl) ?_
    refine x_ldc hx hb (-1000001) rfl hown (hts (.constant RX5 37 (-1000001)) (by decide +kernel)) dX5_copy_15 ?_
    refine x_callV (As := [.int (iI (-1000001))]) (rest := []) ⟨hx, hb, hml, hown, hts⟩ (kX5_finds r ik tn j F (-1000001) 0 (by omega) (by omega)) (cwV 1 hts gX5_copy_X5_finds rfl rfl rfl ykVX5_finds ⟨Nat.le_of_ble_eq_true rfl, Nat.le_of_ble_eq_true rfl⟩) hP hK hD hS 0 4 rfl rfl rfl [0, 5] rfl (by decide) (fun _ => rfl) (fun _ => wRo r ik tn j ++ (wA cI (r 1) 100 T ++ (wA cI (r 2) 100 K ++ (wA cI (r 3) 100 X ++ (wA cI (r 4) 100 Y ++ (wA cI (r 5) 8 (fR (bmp 0 F)) ++ (wA cI (r 6) 120 TB ++ (wA cI (r 7) 4 (bR SB) ++ (wA cI (r 8) 4 SS ++ (wA cI (r 9) 160 SN)))))))))) (fun _ => rfl) rfl hl.1 rfl (Nat.le_of_ble_eq_true rfl) dX5_copy_17 ⟨Nat.le_of_ble_eq_true rfl, Nat.le_of_ble_eq_true rfl⟩ (fun _ H locs _ hP hD hS => ?_)
    refine W.eq (g2 := F0 m 20 ls [.int (iI (-1000001))]) rfl ?_
    exact kend (((-1000001), T, K, ik, SB, SS, SN, tn, TB, (bmp 0 F)), X, Y, j) hP hS rfl (by first | exact ((if_pos (by omega))).symm | (unfold m_copy; (try simp only [Int.toNat_natCast]); rw [if_neg (by omega), if_neg (by omega), if_neg (by omega), if_neg (by omega)] <;> rfl)) dX5_copy_20
  · refine lv_iload_n hx hb dX5_copy_7 rfl (lv_at hl 3 rfl) ?_
    refine x_callS (As := [.int (iI t2)]) (rest := []) ⟨hx, hb, hml, hown, hts⟩ (kX5_isSheet t2 (by omega)) (va_cwS 1 hts gX5_copy_X5_isSheet rfl rfl rfl ykSX5_isSheet ⟨Nat.le_of_ble_eq_true rfl, Nat.le_of_ble_eq_true rfl⟩) hP hK hD hS [] rfl (by decide) (fun _ => rfl) (fun _ => wRo r ik tn j ++ (wA cI (r 1) 100 T ++ (wA cI (r 2) 100 K ++ (wA cI (r 3) 100 X ++ (wA cI (r 4) 100 Y ++ (wA cI (r 5) 8 (fR F) ++ (wA cI (r 6) 120 TB ++ (wA cI (r 7) 4 (bR SB) ++ (wA cI (r 8) 4 SS ++ (wA cI (r 9) 160 SN)))))))))) (fun _ => rfl) rfl hl.1 rfl (Nat.le_of_ble_eq_true rfl) dX5_copy_8 ⟨Nat.le_of_ble_eq_true rfl, Nat.le_of_ble_eq_true rfl⟩ (fun _ H locs _ hP hD hS => ?_)
    refine W.eq (g2 := F0 m 11 ls [.int (iI (b2 (decide (0 ≤ t2 ∧ t2 < 4))))]) rfl ?_
    refine x_ifb_ne (tgt := 21) hx hb dX5_copy_11 (by decide) (fun c_11 => ?_) (fun c_11 => ?_)
    · obtain ⟨s1, rfl⟩ : ∃ s1 : Nat, s0 = (s1 : Int) := ⟨s0.toNat, by omega⟩
      obtain ⟨t1, rfl⟩ : ∃ t1 : Nat, t2 = (t1 : Int) := ⟨t2.toNat, by omega⟩
      have hz := hSS s1 (by omega)
      have hz2 := hSS t1 (by omega)
      have hz3 := hSB s1 (by omega)
      have hz4 := hSB t1 (by omega)
      have hbr := bR_c SB s1
      have hbr2 := bR_c SB t1
      refine lv_aload_n hx hb dX5_copy_21 rfl (lv_at hl 0 rfl) ?_
      refine va_get (D := D) (ci := 4) (v := .ref (r 7)) (C := RX5) (T := TX5) (N := 18) hx hb hts (iT_X5_copy_X5) hown hK hP 0 rfl rfl 8 (by decide) (hts (.fieldLink RX5 28 "WordSupperModel" "bitsOf" "[I") (by decide +kernel)) (fun _ h9 => h9) rfl dX5_copy_22 ?_
      refine lv_iload_n hx hb dX5_copy_25 rfl (lv_at hl 1 rfl) ?_
      refine x_iald hx hb hK hP 7 0 rfl rfl s1 rfl (by omega) (by decide) ((bR SB) s1) (gd_at _ (by omega)) dX5_copy_26 ?_
      refine x_if_lt (tgt := 39) hx hb (by omega) dX5_copy_27 (by decide) (fun c_27 => ?_) (fun c_27 => ?_)
      · refine lv_aload_n hx hb dX5_copy_39 rfl (lv_at hl 0 rfl) ?_
        refine x_ldcw hx hb (-1000006) rfl hown (hts (.constant RX5 273 (-1000006)) (by decide +kernel)) dX5_copy_40 ?_
        refine x_callV (As := [.int (iI (-1000006))]) (rest := []) ⟨hx, hb, hml, hown, hts⟩ (kX5_finds r ik tn j F (-1000006) 5 (by omega) (by omega)) (cwV 1 hts gX5_copy_X5_finds rfl rfl rfl ykVX5_finds ⟨Nat.le_of_ble_eq_true rfl, Nat.le_of_ble_eq_true rfl⟩) hP hK hD hS 0 4 rfl rfl rfl [0, 5] rfl (by decide) (fun _ => rfl) (fun _ => wRo r ik tn j ++ (wA cI (r 1) 100 T ++ (wA cI (r 2) 100 K ++ (wA cI (r 3) 100 X ++ (wA cI (r 4) 100 Y ++ (wA cI (r 5) 8 (fR (bmp 5 F)) ++ (wA cI (r 6) 120 TB ++ (wA cI (r 7) 4 (bR SB) ++ (wA cI (r 8) 4 SS ++ (wA cI (r 9) 160 SN)))))))))) (fun _ => rfl) rfl hl.1 rfl (Nat.le_of_ble_eq_true rfl) dX5_copy_43 ⟨Nat.le_of_ble_eq_true rfl, Nat.le_of_ble_eq_true rfl⟩ (fun _ H locs _ hP hD hS => ?_)
        refine W.eq (g2 := F0 m 46 ls [.int (iI (-1000006))]) rfl ?_
        exact kend (((-1000006), T, K, ik, SB, SS, SN, tn, TB, (bmp 5 F)), X, Y, j) hP hS rfl (by unfold m_copy; (try simp only [Int.toNat_natCast]); rw [if_neg (by omega), if_pos (by omega)] <;> rfl) dX5_copy_46
      · refine lv_aload_n hx hb dX5_copy_30 rfl (lv_at hl 0 rfl) ?_
        refine va_get (D := D) (ci := 4) (v := .ref (r 7)) (C := RX5) (T := TX5) (N := 18) hx hb hts (iT_X5_copy_X5) hown hK hP 0 rfl rfl 8 (by decide) (hts (.fieldLink RX5 28 "WordSupperModel" "bitsOf" "[I") (by decide +kernel)) (fun _ h9 => h9) rfl dX5_copy_31 ?_
        refine lv_iload_n hx hb dX5_copy_34 rfl (lv_at hl 3 rfl) ?_
        refine x_iald hx hb hK hP 7 0 rfl rfl t1 rfl (by omega) (by decide) ((bR SB) t1) (gd_at _ (by omega)) dX5_copy_35 ?_
        refine x_if_ge (tgt := 47) hx hb (by omega) dX5_copy_36 (by decide) (fun c_36 => ?_) (fun c_36 => ?_)
        · refine lv_aload_n hx hb dX5_copy_47 rfl (lv_at hl 0 rfl) ?_
          refine va_get (D := D) (ci := 4) (v := .ref (r 7)) (C := RX5) (T := TX5) (N := 18) hx hb hts (iT_X5_copy_X5) hown hK hP 0 rfl rfl 8 (by decide) (hts (.fieldLink RX5 28 "WordSupperModel" "bitsOf" "[I") (by decide +kernel)) (fun _ h9 => h9) rfl dX5_copy_48 ?_
          refine lv_iload_n hx hb dX5_copy_51 rfl (lv_at hl 1 rfl) ?_
          refine x_iald hx hb hK hP 7 0 rfl rfl s1 rfl (by omega) (by decide) ((bR SB) s1) (gd_at _ (by omega)) dX5_copy_52 ?_
          refine lv_aload_n hx hb dX5_copy_53 rfl (lv_at hl 0 rfl) ?_
          refine va_get (D := D) (ci := 4) (v := .ref (r 7)) (C := RX5) (T := TX5) (N := 18) hx hb hts (iT_X5_copy_X5) hown hK hP 0 rfl rfl 8 (by decide) (hts (.fieldLink RX5 28 "WordSupperModel" "bitsOf" "[I") (by decide +kernel)) (fun _ h9 => h9) rfl dX5_copy_54 ?_
          refine lv_iload_n hx hb dX5_copy_57 rfl (lv_at hl 3 rfl) ?_
          refine x_iald hx hb hK hP 7 0 rfl rfl t1 rfl (by omega) (by decide) ((bR SB) t1) (gd_at _ (by omega)) dX5_copy_58 ?_
          refine x_icmp_eq (tgt := 70) hx hb (by omega) (by omega) dX5_copy_59 (by decide) (fun c_59 => ?_) (fun c_59 => ?_)
          · refine lv_iload_n hx hb dX5_copy_70 rfl (lv_at hl 2 rfl) ?_
            refine x_if_lt (tgt := 111) hx hb (by omega) dX5_copy_71 (by decide) (fun c_71 => ?_) (fun c_71 => ?_)
            · refine lv_aload_n hx hb dX5_copy_111 rfl (lv_at hl 0 rfl) ?_
              refine x_ldc hx hb (-1000001) rfl hown (hts (.constant RX5 37 (-1000001)) (by decide +kernel)) dX5_copy_112 ?_
              refine x_callV (As := [.int (iI (-1000001))]) (rest := []) ⟨hx, hb, hml, hown, hts⟩ (kX5_finds r ik tn j F (-1000001) 0 (by omega) (by omega)) (cwV 1 hts gX5_copy_X5_finds rfl rfl rfl ykVX5_finds ⟨Nat.le_of_ble_eq_true rfl, Nat.le_of_ble_eq_true rfl⟩) hP hK hD hS 0 4 rfl rfl rfl [0, 5] rfl (by decide) (fun _ => rfl) (fun _ => wRo r ik tn j ++ (wA cI (r 1) 100 T ++ (wA cI (r 2) 100 K ++ (wA cI (r 3) 100 X ++ (wA cI (r 4) 100 Y ++ (wA cI (r 5) 8 (fR (bmp 0 F)) ++ (wA cI (r 6) 120 TB ++ (wA cI (r 7) 4 (bR SB) ++ (wA cI (r 8) 4 SS ++ (wA cI (r 9) 160 SN)))))))))) (fun _ => rfl) rfl hl.1 rfl (Nat.le_of_ble_eq_true rfl) dX5_copy_114 ⟨Nat.le_of_ble_eq_true rfl, Nat.le_of_ble_eq_true rfl⟩ (fun _ H locs _ hP hD hS => ?_)
              refine W.eq (g2 := F0 m 117 ls [.int (iI (-1000001))]) rfl ?_
              exact kend (((-1000001), T, K, ik, SB, SS, SN, tn, TB, (bmp 0 F)), X, Y, j) hP hS rfl (by first | exact ((if_pos (by omega))).symm | (unfold m_copy; (try simp only [Int.toNat_natCast]); rw [if_neg (by omega), if_neg (by omega), if_neg (by omega), if_neg (by omega)] <;> rfl)) dX5_copy_117
            · refine lv_iload hx hb dX5_copy_74 (lv_at hl 4 rfl) ?_
              refine x_if_lt (tgt := 111) hx hb (by omega) dX5_copy_76 (by decide) (fun c_76 => ?_) (fun c_76 => ?_)
              · refine lv_aload_n hx hb dX5_copy_111 rfl (lv_at hl 0 rfl) ?_
                refine x_ldc hx hb (-1000001) rfl hown (hts (.constant RX5 37 (-1000001)) (by decide +kernel)) dX5_copy_112 ?_
                refine x_callV (As := [.int (iI (-1000001))]) (rest := []) ⟨hx, hb, hml, hown, hts⟩ (kX5_finds r ik tn j F (-1000001) 0 (by omega) (by omega)) (cwV 1 hts gX5_copy_X5_finds rfl rfl rfl ykVX5_finds ⟨Nat.le_of_ble_eq_true rfl, Nat.le_of_ble_eq_true rfl⟩) hP hK hD hS 0 4 rfl rfl rfl [0, 5] rfl (by decide) (fun _ => rfl) (fun _ => wRo r ik tn j ++ (wA cI (r 1) 100 T ++ (wA cI (r 2) 100 K ++ (wA cI (r 3) 100 X ++ (wA cI (r 4) 100 Y ++ (wA cI (r 5) 8 (fR (bmp 0 F)) ++ (wA cI (r 6) 120 TB ++ (wA cI (r 7) 4 (bR SB) ++ (wA cI (r 8) 4 SS ++ (wA cI (r 9) 160 SN)))))))))) (fun _ => rfl) rfl hl.1 rfl (Nat.le_of_ble_eq_true rfl) dX5_copy_114 ⟨Nat.le_of_ble_eq_true rfl, Nat.le_of_ble_eq_true rfl⟩ (fun _ H locs _ hP hD hS => ?_)
                refine W.eq (g2 := F0 m 117 ls [.int (iI (-1000001))]) rfl ?_
                exact kend (((-1000001), T, K, ik, SB, SS, SN, tn, TB, (bmp 0 F)), X, Y, j) hP hS rfl (by first | exact ((if_pos (by omega))).symm | (unfold m_copy; (try simp only [Int.toNat_natCast]); rw [if_neg (by omega), if_neg (by omega), if_neg (by omega), if_neg (by omega)] <;> rfl)) dX5_copy_117
              · refine lv_iload hx hb dX5_copy_79 (lv_at hl 5 rfl) ?_
                refine x_if_lt (tgt := 111) hx hb (by omega) dX5_copy_81 (by decide) (fun c_81 => ?_) (fun c_81 => ?_)
                · refine lv_aload_n hx hb dX5_copy_111 rfl (lv_at hl 0 rfl) ?_
                  refine x_ldc hx hb (-1000001) rfl hown (hts (.constant RX5 37 (-1000001)) (by decide +kernel)) dX5_copy_112 ?_
                  refine x_callV (As := [.int (iI (-1000001))]) (rest := []) ⟨hx, hb, hml, hown, hts⟩ (kX5_finds r ik tn j F (-1000001) 0 (by omega) (by omega)) (cwV 1 hts gX5_copy_X5_finds rfl rfl rfl ykVX5_finds ⟨Nat.le_of_ble_eq_true rfl, Nat.le_of_ble_eq_true rfl⟩) hP hK hD hS 0 4 rfl rfl rfl [0, 5] rfl (by decide) (fun _ => rfl) (fun _ => wRo r ik tn j ++ (wA cI (r 1) 100 T ++ (wA cI (r 2) 100 K ++ (wA cI (r 3) 100 X ++ (wA cI (r 4) 100 Y ++ (wA cI (r 5) 8 (fR (bmp 0 F)) ++ (wA cI (r 6) 120 TB ++ (wA cI (r 7) 4 (bR SB) ++ (wA cI (r 8) 4 SS ++ (wA cI (r 9) 160 SN)))))))))) (fun _ => rfl) rfl hl.1 rfl (Nat.le_of_ble_eq_true rfl) dX5_copy_114 ⟨Nat.le_of_ble_eq_true rfl, Nat.le_of_ble_eq_true rfl⟩ (fun _ H locs _ hP hD hS => ?_)
                  refine W.eq (g2 := F0 m 117 ls [.int (iI (-1000001))]) rfl ?_
                  exact kend (((-1000001), T, K, ik, SB, SS, SN, tn, TB, (bmp 0 F)), X, Y, j) hP hS rfl (by first | exact ((if_pos (by omega))).symm | (unfold m_copy; (try simp only [Int.toNat_natCast]); rw [if_neg (by omega), if_neg (by omega), if_neg (by omega), if_neg (by omega)] <;> rfl)) dX5_copy_117
                · refine lv_iload hx hb dX5_copy_84 (lv_at hl 5 rfl) ?_
                  refine lv_aload_n hx hb dX5_copy_86 rfl (lv_at hl 0 rfl) ?_
                  refine va_get (D := D) (ci := 4) (v := .ref (r 8)) (C := RX5) (T := TX5) (N := 18) hx hb hts (iT_X5_copy_X5) hown hK hP 0 rfl rfl 9 (by decide) (hts (.fieldLink RX5 31 "WordSupperModel" "sizes" "[I") (by decide +kernel)) (fun _ h9 => h9) rfl dX5_copy_87 ?_
                  refine lv_iload_n hx hb dX5_copy_90 rfl (lv_at hl 1 rfl) ?_
                  refine x_iald hx hb hK hP 8 0 rfl rfl s1 rfl (by omega) (by decide) (SS s1) (gd_at _ (by omega)) dX5_copy_91 ?_
                  refine lv_iload_n hx hb dX5_copy_92 rfl (lv_at hl 2 rfl) ?_
                  refine x_isub hx hb dX5_copy_93 ?_
                  refine x_icmp_gt (tgt := 111) hx hb (by omega) (by omega) dX5_copy_94 (by decide) (fun c_94 => ?_) (fun c_94 => ?_)
                  · refine lv_aload_n hx hb dX5_copy_111 rfl (lv_at hl 0 rfl) ?_
                    refine x_ldc hx hb (-1000001) rfl hown (hts (.constant RX5 37 (-1000001)) (by decide +kernel)) dX5_copy_112 ?_
                    refine x_callV (As := [.int (iI (-1000001))]) (rest := []) ⟨hx, hb, hml, hown, hts⟩ (kX5_finds r ik tn j F (-1000001) 0 (by omega) (by omega)) (cwV 1 hts gX5_copy_X5_finds rfl rfl rfl ykVX5_finds ⟨Nat.le_of_ble_eq_true rfl, Nat.le_of_ble_eq_true rfl⟩) hP hK hD hS 0 4 rfl rfl rfl [0, 5] rfl (by decide) (fun _ => rfl) (fun _ => wRo r ik tn j ++ (wA cI (r 1) 100 T ++ (wA cI (r 2) 100 K ++ (wA cI (r 3) 100 X ++ (wA cI (r 4) 100 Y ++ (wA cI (r 5) 8 (fR (bmp 0 F)) ++ (wA cI (r 6) 120 TB ++ (wA cI (r 7) 4 (bR SB) ++ (wA cI (r 8) 4 SS ++ (wA cI (r 9) 160 SN)))))))))) (fun _ => rfl) rfl hl.1 rfl (Nat.le_of_ble_eq_true rfl) dX5_copy_114 ⟨Nat.le_of_ble_eq_true rfl, Nat.le_of_ble_eq_true rfl⟩ (fun _ H locs _ hP hD hS => ?_)
                    refine W.eq (g2 := F0 m 117 ls [.int (iI (-1000001))]) rfl ?_
                    exact kend (((-1000001), T, K, ik, SB, SS, SN, tn, TB, (bmp 0 F)), X, Y, j) hP hS rfl (by first | exact ((if_pos (by omega))).symm | (unfold m_copy; (try simp only [Int.toNat_natCast]); rw [if_neg (by omega), if_neg (by omega), if_neg (by omega), if_neg (by omega)] <;> rfl)) dX5_copy_117
                  · refine lv_iload hx hb dX5_copy_97 (lv_at hl 5 rfl) ?_
                    refine lv_aload_n hx hb dX5_copy_99 rfl (lv_at hl 0 rfl) ?_
                    refine va_get (D := D) (ci := 4) (v := .ref (r 8)) (C := RX5) (T := TX5) (N := 18) hx hb hts (iT_X5_copy_X5) hown hK hP 0 rfl rfl 9 (by decide) (hts (.fieldLink RX5 31 "WordSupperModel" "sizes" "[I") (by decide +kernel)) (fun _ h9 => h9) rfl dX5_copy_100 ?_
                    refine lv_iload_n hx hb dX5_copy_103 rfl (lv_at hl 3 rfl) ?_
                    refine x_iald hx hb hK hP 8 0 rfl rfl t1 rfl (by omega) (by decide) (SS t1) (gd_at _ (by omega)) dX5_copy_104 ?_
                    refine lv_iload hx hb dX5_copy_105 (lv_at hl 4 rfl) ?_
                    refine x_isub hx hb dX5_copy_107 ?_
                    refine x_icmp_le (tgt := 118) hx hb (by omega) (by omega) dX5_copy_108 (by decide) (fun c_108 => ?_) (fun c_108 => ?_)
                    · obtain ⟨a1, rfl⟩ : ∃ a1 : Nat, a0 = (a1 : Int) := ⟨a0.toNat, by omega⟩
                      obtain ⟨c1, rfl⟩ : ∃ c1 : Nat, c0 = (c1 : Int) := ⟨c0.toNat, by omega⟩
                      obtain ⟨n0, rfl⟩ : ∃ n0 : Nat, n = (n0 : Int) := ⟨n.toNat, by omega⟩
                      refine x_bipush hx hb dX5_copy_118 (by decide) ?_
                      refine lv_iload_n hx hb dX5_copy_120 rfl (lv_at hl 1 rfl) ?_
                      refine x_imul hx hb dX5_copy_121 ?_
                      refine x_topi ((40 * s1 : Nat) : Int) (by omega) ?_
                      refine lv_iload_n hx hb dX5_copy_122 rfl (lv_at hl 2 rfl) ?_
                      refine x_iadd hx hb dX5_copy_123 ?_
                      refine x_topi (((40 * s1) + a1 : Nat) : Int) (by omega) ?_
                      refine lv_istore (lv' := [(6, .int (iI (((40 * s1) + a1 : Nat) : Int))), (0, .ref (r 0)), (1, .int (iI ((s1 : Nat) : Int))), (2, .int (iI ((a1 : Nat) : Int))), (3, .int (iI ((t1 : Nat) : Int))), (4, .int (iI ((c1 : Nat) : Int))), (5, .int (iI ((n0 : Nat) : Int)))]) hx hb dX5_copy_124 hl (by decide) rfl (fun ls hl => ?_)
                      refine x_bipush hx hb dX5_copy_126 (by decide) ?_
                      refine lv_iload_n hx hb dX5_copy_128 rfl (lv_at hl 4 rfl) ?_
                      refine x_imul hx hb dX5_copy_129 ?_
                      refine x_topi ((40 * t1 : Nat) : Int) (by omega) ?_
                      refine lv_iload hx hb dX5_copy_130 (lv_at hl 5 rfl) ?_
                      refine x_iadd hx hb dX5_copy_132 ?_
                      refine x_topi (((40 * t1) + c1 : Nat) : Int) (by omega) ?_
                      refine lv_istore (lv' := [(7, .int (iI (((40 * t1) + c1 : Nat) : Int))), (6, .int (iI (((40 * s1) + a1 : Nat) : Int))), (0, .ref (r 0)), (1, .int (iI ((s1 : Nat) : Int))), (2, .int (iI ((a1 : Nat) : Int))), (3, .int (iI ((t1 : Nat) : Int))), (4, .int (iI ((c1 : Nat) : Int))), (5, .int (iI ((n0 : Nat) : Int)))]) hx hb dX5_copy_133 hl (by decide) rfl (fun ls hl => ?_)
                      refine x_iconst hx hb dX5_copy_135 ?_
                      refine lv_istore (lv' := [(8, .int (iI 0)), (7, .int (iI (((40 * t1) + c1 : Nat) : Int))), (6, .int (iI (((40 * s1) + a1 : Nat) : Int))), (0, .ref (r 0)), (1, .int (iI ((s1 : Nat) : Int))), (2, .int (iI ((a1 : Nat) : Int))), (3, .int (iI ((t1 : Nat) : Int))), (4, .int (iI ((c1 : Nat) : Int))), (5, .int (iI ((n0 : Nat) : Int)))]) hx hb dX5_copy_136 hl (by decide) rfl (fun ls hl => ?_)
                      have L138 : ∀ (k t : Nat) (Nt : Nat → Int) (H : Heap) (locs : List Loc) (ls : Array Slot), t + k = n0 → (cpJ SN Nt (40 * s1 + a1) (40 * t1 + c1) n0 t) → va_P D vwCl (wRo r ik tn j ++ (wA cI (r 1) 100 T ++ (wA cI (r 2) 100 K ++ (wA cI (r 3) 100 X ++ (wA cI (r 4) 100 Y ++ (wA cI (r 5) 8 (fR F) ++ (wA cI (r 6) 120 TB ++ (wA cI (r 7) 4 (bR SB) ++ (wA cI (r 8) 4 SS ++ (wA cI (r 9) 160 Nt)))))))))) H → va_D A (wRo r ik tn j ++ (wA cI (r 1) 100 T ++ (wA cI (r 2) 100 K ++ (wA cI (r 3) 100 X ++ (wA cI (r 4) 100 Y ++ (wA cI (r 5) 8 (fR F) ++ (wA cI (r 6) 120 TB ++ (wA cI (r 7) 4 (bR SB) ++ (wA cI (r 8) 4 SS ++ (wA cI (r 9) 160 Nt)))))))))) → va_S A s.heap H locs → lv_has ls 10 [(0, .ref (r 0)), (1, .int (iI ((s1 : Nat) : Int))), (2, .int (iI ((a1 : Nat) : Int))), (3, .int (iI ((t1 : Nat) : Int))), (4, .int (iI ((c1 : Nat) : Int))), (5, .int (iI ((n0 : Nat) : Int))), (6, .int (iI ((40 * s1 + a1 : Nat) : Int))), (7, .int (iI ((40 * t1 + c1 : Nat) : Int))), (8, .int (iI ((t : Nat) : Int)))] → W pg l e { frames := 1, cells := 0, slots := 0, locals := 21 } s m args below meth c H locs 0 0 Q (F0 m 138 ls []) := by
                        intro k
                        induction k with
                        | zero =>
                          intro t Nt H locs ls hkt hj hP hD hS hl
                          refine lv_iload hx hb dX5_copy_138 (lv_at hl 8 rfl) ?_
                          refine lv_iload hx hb dX5_copy_140 (lv_at hl 5 rfl) ?_
                          refine x_icmp_ge (tgt := 192) hx hb (by omega) (by omega) dX5_copy_142 (by decide) (fun c_142 => ?_) (fun c_142 => ?_)
                          · rw [show t = n0 by omega] at hj
                            refine lv_iload hx hb dX5_copy_192 (lv_at hl 5 rfl) ?_
                            exact kend ((((n0 : Nat) : Int), T, K, ik, SB, SS, Nt, tn, TB, F), X, Y, j) hP hS rfl (by unfold m_copy; simp only [Int.toNat_natCast]; rw [if_neg (by omega), if_neg (by omega), if_neg (by omega), if_pos (by omega), cpJ_n hj]) dX5_copy_194
                          · exfalso; omega
                        | succ k ih =>
                          intro t Nt H locs ls hkt hj hP hD hS hl
                          refine lv_iload hx hb dX5_copy_138 (lv_at hl 8 rfl) ?_
                          refine lv_iload hx hb dX5_copy_140 (lv_at hl 5 rfl) ?_
                          refine x_icmp_ge (tgt := 192) hx hb (by omega) (by omega) dX5_copy_142 (by decide) (fun c_142 => ?_) (fun c_142 => ?_)
                          · exfalso; omega
                          · refine lv_iload hx hb dX5_copy_145 (lv_at hl 6 rfl) ?_
                            refine lv_iload hx hb dX5_copy_147 (lv_at hl 7 rfl) ?_
                            refine x_icmp_ge (tgt := 162) hx hb (by omega) (by omega) dX5_copy_149 (by decide) (fun c_149 => ?_) (fun c_149 => ?_)
                            · refine lv_iload hx hb dX5_copy_162 (lv_at hl 8 rfl) ?_
                              refine lv_istore (lv' := [(9, .int (iI ((t : Nat) : Int))), (0, .ref (r 0)), (1, .int (iI ((s1 : Nat) : Int))), (2, .int (iI ((a1 : Nat) : Int))), (3, .int (iI ((t1 : Nat) : Int))), (4, .int (iI ((c1 : Nat) : Int))), (5, .int (iI ((n0 : Nat) : Int))), (6, .int (iI ((40 * s1 + a1 : Nat) : Int))), (7, .int (iI ((40 * t1 + c1 : Nat) : Int))), (8, .int (iI ((t : Nat) : Int)))]) hx hb dX5_copy_164 hl (by decide) rfl (fun ls hl => ?_)
                              refine lv_aload_n hx hb dX5_copy_166 rfl (lv_at hl 1 rfl) ?_
                              refine va_get (D := D) (ci := 4) (v := .ref (r 9)) (C := RX5) (T := TX5) (N := 18) hx hb hts (iT_X5_copy_X5) hown hK hP 0 rfl rfl 10 (by decide) (hts (.fieldLink RX5 34 "WordSupperModel" "numbers" "[I") (by decide +kernel)) (fun _ h9 => h9) rfl dX5_copy_167 ?_
                              refine lv_iload hx hb dX5_copy_170 (lv_at hl 8 rfl) ?_
                              refine lv_iload hx hb dX5_copy_172 (lv_at hl 0 rfl) ?_
                              refine x_iadd hx hb dX5_copy_174 ?_
                              refine x_topi (((40 * t1 + c1) + t : Nat) : Int) (by omega) ?_
                              refine lv_aload_n hx hb dX5_copy_175 rfl (lv_at hl 1 rfl) ?_
                              refine va_get (D := D) (ci := 4) (v := .ref (r 9)) (C := RX5) (T := TX5) (N := 18) hx hb hts (iT_X5_copy_X5) hown hK hP 0 rfl rfl 10 (by decide) (hts (.fieldLink RX5 34 "WordSupperModel" "numbers" "[I") (by decide +kernel)) (fun _ h9 => h9) rfl dX5_copy_176 ?_
                              refine lv_iload hx hb dX5_copy_179 (lv_at hl 7 rfl) ?_
                              refine lv_iload hx hb dX5_copy_181 (lv_at hl 0 rfl) ?_
                              refine x_iadd hx hb dX5_copy_183 ?_
                              refine x_topi (((40 * s1 + a1) + t : Nat) : Int) (by omega) ?_
                              refine x_iald hx hb hK hP 9 0 rfl rfl ((40 * s1 + a1) + t) rfl (by omega) (by decide) (Nt ((40 * s1 + a1) + t)) (gd_at _ (by omega)) dX5_copy_184 ?_
                              refine x_iast hx hb hK hP hD hS 9 0 rfl rfl ((40 * t1 + c1) + t) rfl (by omega) (by decide) (wRo r ik tn j ++ (wA cI (r 1) 100 T ++ (wA cI (r 2) 100 K ++ (wA cI (r 3) 100 X ++ (wA cI (r 4) 100 Y ++ (wA cI (r 5) 8 (fR F) ++ (wA cI (r 6) 120 TB ++ (wA cI (r 7) 4 (bR SB) ++ (wA cI (r 8) 4 SS ++ (wA cI (r 9) 160 (va_up Nt ((40 * t1 + c1) + t) (Nt ((40 * s1 + a1) + t))))))))))))) (by rw [← wA_up cI (r 9) 160 Nt (Nt ((40 * s1 + a1) + t)) ((40 * t1 + c1) + t) (by omega)]; rfl) dX5_copy_185 (fun H locs hP hD hS => ?_)
                              refine x_iinc hx hb 9 ((t + 1 : Nat) : Int) (by omega) [(8, .int (iI ((t + 1 : Nat) : Int))), (9, .int (iI ((t : Nat) : Int))), (0, .ref (r 0)), (1, .int (iI ((s1 : Nat) : Int))), (2, .int (iI ((a1 : Nat) : Int))), (3, .int (iI ((t1 : Nat) : Int))), (4, .int (iI ((c1 : Nat) : Int))), (5, .int (iI ((n0 : Nat) : Int))), (6, .int (iI ((40 * s1 + a1 : Nat) : Int))), (7, .int (iI ((40 * t1 + c1 : Nat) : Int)))] dX5_copy_186 hl rfl (by decide) rfl (fun ls hl => ?_)
                              refine lv_goto (tgt := 138) hx hb dX5_copy_189 (by decide) ?_
                              exact ih (t + 1) (va_up Nt ((40 * t1 + c1) + t) (Nt ((40 * s1 + a1) + t))) _ _ _ (by omega) (cpJ_f hj (by omega)) hP hD hS (lv_sub hl [2, 3, 4, 5, 6, 7, 8, 9, 0] rfl)
                            · refine lv_iload hx hb dX5_copy_152 (lv_at hl 5 rfl) ?_
                              refine x_iconst hx hb dX5_copy_154 ?_
                              refine x_isub hx hb dX5_copy_155 ?_
                              refine lv_iload hx hb dX5_copy_156 (lv_at hl 8 rfl) ?_
                              refine x_isub hx hb dX5_copy_158 ?_
                              refine x_topi ((n0 - 1 - t : Nat) : Int) (by omega) ?_
                              refine lv_goto (tgt := 164) hx hb dX5_copy_159 (by decide) ?_
                              refine lv_istore (lv' := [(9, .int (iI ((n0 - 1 - t : Nat) : Int))), (0, .ref (r 0)), (1, .int (iI ((s1 : Nat) : Int))), (2, .int (iI ((a1 : Nat) : Int))), (3, .int (iI ((t1 : Nat) : Int))), (4, .int (iI ((c1 : Nat) : Int))), (5, .int (iI ((n0 : Nat) : Int))), (6, .int (iI ((40 * s1 + a1 : Nat) : Int))), (7, .int (iI ((40 * t1 + c1 : Nat) : Int))), (8, .int (iI ((t : Nat) : Int)))]) hx hb dX5_copy_164 hl (by decide) rfl (fun ls hl => ?_)
                              refine lv_aload_n hx hb dX5_copy_166 rfl (lv_at hl 1 rfl) ?_
                              refine va_get (D := D) (ci := 4) (v := .ref (r 9)) (C := RX5) (T := TX5) (N := 18) hx hb hts (iT_X5_copy_X5) hown hK hP 0 rfl rfl 10 (by decide) (hts (.fieldLink RX5 34 "WordSupperModel" "numbers" "[I") (by decide +kernel)) (fun _ h9 => h9) rfl dX5_copy_167 ?_
                              refine lv_iload hx hb dX5_copy_170 (lv_at hl 8 rfl) ?_
                              refine lv_iload hx hb dX5_copy_172 (lv_at hl 0 rfl) ?_
                              refine x_iadd hx hb dX5_copy_174 ?_
                              refine x_topi (((40 * t1 + c1) + (n0 - 1 - t) : Nat) : Int) (by omega) ?_
                              refine lv_aload_n hx hb dX5_copy_175 rfl (lv_at hl 1 rfl) ?_
                              refine va_get (D := D) (ci := 4) (v := .ref (r 9)) (C := RX5) (T := TX5) (N := 18) hx hb hts (iT_X5_copy_X5) hown hK hP 0 rfl rfl 10 (by decide) (hts (.fieldLink RX5 34 "WordSupperModel" "numbers" "[I") (by decide +kernel)) (fun _ h9 => h9) rfl dX5_copy_176 ?_
                              refine lv_iload hx hb dX5_copy_179 (lv_at hl 7 rfl) ?_
                              refine lv_iload hx hb dX5_copy_181 (lv_at hl 0 rfl) ?_
                              refine x_iadd hx hb dX5_copy_183 ?_
                              refine x_topi (((40 * s1 + a1) + (n0 - 1 - t) : Nat) : Int) (by omega) ?_
                              refine x_iald hx hb hK hP 9 0 rfl rfl ((40 * s1 + a1) + (n0 - 1 - t)) rfl (by omega) (by decide) (Nt ((40 * s1 + a1) + (n0 - 1 - t))) (gd_at _ (by omega)) dX5_copy_184 ?_
                              refine x_iast hx hb hK hP hD hS 9 0 rfl rfl ((40 * t1 + c1) + (n0 - 1 - t)) rfl (by omega) (by decide) (wRo r ik tn j ++ (wA cI (r 1) 100 T ++ (wA cI (r 2) 100 K ++ (wA cI (r 3) 100 X ++ (wA cI (r 4) 100 Y ++ (wA cI (r 5) 8 (fR F) ++ (wA cI (r 6) 120 TB ++ (wA cI (r 7) 4 (bR SB) ++ (wA cI (r 8) 4 SS ++ (wA cI (r 9) 160 (va_up Nt ((40 * t1 + c1) + (n0 - 1 - t)) (Nt ((40 * s1 + a1) + (n0 - 1 - t)))))))))))))) (by rw [← wA_up cI (r 9) 160 Nt (Nt ((40 * s1 + a1) + (n0 - 1 - t))) ((40 * t1 + c1) + (n0 - 1 - t)) (by omega)]; rfl) dX5_copy_185 (fun H locs hP hD hS => ?_)
                              refine x_iinc hx hb 9 ((t + 1 : Nat) : Int) (by omega) [(8, .int (iI ((t + 1 : Nat) : Int))), (9, .int (iI ((n0 - 1 - t : Nat) : Int))), (0, .ref (r 0)), (1, .int (iI ((s1 : Nat) : Int))), (2, .int (iI ((a1 : Nat) : Int))), (3, .int (iI ((t1 : Nat) : Int))), (4, .int (iI ((c1 : Nat) : Int))), (5, .int (iI ((n0 : Nat) : Int))), (6, .int (iI ((40 * s1 + a1 : Nat) : Int))), (7, .int (iI ((40 * t1 + c1 : Nat) : Int)))] dX5_copy_186 hl rfl (by decide) rfl (fun ls hl => ?_)
                              refine lv_goto (tgt := 138) hx hb dX5_copy_189 (by decide) ?_
                              exact ih (t + 1) (va_up Nt ((40 * t1 + c1) + (n0 - 1 - t)) (Nt ((40 * s1 + a1) + (n0 - 1 - t)))) _ _ _ (by omega) (cpJ_b hj (by omega) (by omega)) hP hD hS (lv_sub hl [2, 3, 4, 5, 6, 7, 8, 9, 0] rfl)
                      exact L138 n0 0 SN _ _ _ (by omega) (cpJ_0 _ _ _ _) hP hD hS (lv_sub hl [3, 4, 5, 6, 7, 8, 2, 1, 0] rfl)
                    · refine lv_aload_n hx hb dX5_copy_111 rfl (lv_at hl 0 rfl) ?_
                      refine x_ldc hx hb (-1000001) rfl hown (hts (.constant RX5 37 (-1000001)) (by decide +kernel)) dX5_copy_112 ?_
                      refine x_callV (As := [.int (iI (-1000001))]) (rest := []) ⟨hx, hb, hml, hown, hts⟩ (kX5_finds r ik tn j F (-1000001) 0 (by omega) (by omega)) (cwV 1 hts gX5_copy_X5_finds rfl rfl rfl ykVX5_finds ⟨Nat.le_of_ble_eq_true rfl, Nat.le_of_ble_eq_true rfl⟩) hP hK hD hS 0 4 rfl rfl rfl [0, 5] rfl (by decide) (fun _ => rfl) (fun _ => wRo r ik tn j ++ (wA cI (r 1) 100 T ++ (wA cI (r 2) 100 K ++ (wA cI (r 3) 100 X ++ (wA cI (r 4) 100 Y ++ (wA cI (r 5) 8 (fR (bmp 0 F)) ++ (wA cI (r 6) 120 TB ++ (wA cI (r 7) 4 (bR SB) ++ (wA cI (r 8) 4 SS ++ (wA cI (r 9) 160 SN)))))))))) (fun _ => rfl) rfl hl.1 rfl (Nat.le_of_ble_eq_true rfl) dX5_copy_114 ⟨Nat.le_of_ble_eq_true rfl, Nat.le_of_ble_eq_true rfl⟩ (fun _ H locs _ hP hD hS => ?_)
                      refine W.eq (g2 := F0 m 117 ls [.int (iI (-1000001))]) rfl ?_
                      exact kend (((-1000001), T, K, ik, SB, SS, SN, tn, TB, (bmp 0 F)), X, Y, j) hP hS rfl (by first | exact ((if_pos (by omega))).symm | (unfold m_copy; (try simp only [Int.toNat_natCast]); rw [if_neg (by omega), if_neg (by omega), if_neg (by omega), if_neg (by omega)] <;> rfl)) dX5_copy_117
          · refine lv_aload_n hx hb dX5_copy_62 rfl (lv_at hl 0 rfl) ?_
            refine x_ldcw hx hb (-1000003) rfl hown (hts (.constant RX5 277 (-1000003)) (by decide +kernel)) dX5_copy_63 ?_
            refine x_callV (As := [.int (iI (-1000003))]) (rest := []) ⟨hx, hb, hml, hown, hts⟩ (kX5_finds r ik tn j F (-1000003) 2 (by omega) (by omega)) (cwV 1 hts gX5_copy_X5_finds rfl rfl rfl ykVX5_finds ⟨Nat.le_of_ble_eq_true rfl, Nat.le_of_ble_eq_true rfl⟩) hP hK hD hS 0 4 rfl rfl rfl [0, 5] rfl (by decide) (fun _ => rfl) (fun _ => wRo r ik tn j ++ (wA cI (r 1) 100 T ++ (wA cI (r 2) 100 K ++ (wA cI (r 3) 100 X ++ (wA cI (r 4) 100 Y ++ (wA cI (r 5) 8 (fR (bmp 2 F)) ++ (wA cI (r 6) 120 TB ++ (wA cI (r 7) 4 (bR SB) ++ (wA cI (r 8) 4 SS ++ (wA cI (r 9) 160 SN)))))))))) (fun _ => rfl) rfl hl.1 rfl (Nat.le_of_ble_eq_true rfl) dX5_copy_66 ⟨Nat.le_of_ble_eq_true rfl, Nat.le_of_ble_eq_true rfl⟩ (fun _ H locs _ hP hD hS => ?_)
            refine W.eq (g2 := F0 m 69 ls [.int (iI (-1000003))]) rfl ?_
            exact kend (((-1000003), T, K, ik, SB, SS, SN, tn, TB, (bmp 2 F)), X, Y, j) hP hS rfl (by unfold m_copy; (try simp only [Int.toNat_natCast]); rw [if_neg (by omega), if_neg (by omega), if_pos (by omega)] <;> rfl) dX5_copy_69
        · refine lv_aload_n hx hb dX5_copy_39 rfl (lv_at hl 0 rfl) ?_
          refine x_ldcw hx hb (-1000006) rfl hown (hts (.constant RX5 273 (-1000006)) (by decide +kernel)) dX5_copy_40 ?_
          refine x_callV (As := [.int (iI (-1000006))]) (rest := []) ⟨hx, hb, hml, hown, hts⟩ (kX5_finds r ik tn j F (-1000006) 5 (by omega) (by omega)) (cwV 1 hts gX5_copy_X5_finds rfl rfl rfl ykVX5_finds ⟨Nat.le_of_ble_eq_true rfl, Nat.le_of_ble_eq_true rfl⟩) hP hK hD hS 0 4 rfl rfl rfl [0, 5] rfl (by decide) (fun _ => rfl) (fun _ => wRo r ik tn j ++ (wA cI (r 1) 100 T ++ (wA cI (r 2) 100 K ++ (wA cI (r 3) 100 X ++ (wA cI (r 4) 100 Y ++ (wA cI (r 5) 8 (fR (bmp 5 F)) ++ (wA cI (r 6) 120 TB ++ (wA cI (r 7) 4 (bR SB) ++ (wA cI (r 8) 4 SS ++ (wA cI (r 9) 160 SN)))))))))) (fun _ => rfl) rfl hl.1 rfl (Nat.le_of_ble_eq_true rfl) dX5_copy_43 ⟨Nat.le_of_ble_eq_true rfl, Nat.le_of_ble_eq_true rfl⟩ (fun _ H locs _ hP hD hS => ?_)
          refine W.eq (g2 := F0 m 46 ls [.int (iI (-1000006))]) rfl ?_
          exact kend (((-1000006), T, K, ik, SB, SS, SN, tn, TB, (bmp 5 F)), X, Y, j) hP hS rfl (by unfold m_copy; (try simp only [Int.toNat_natCast]); rw [if_neg (by omega), if_pos (by omega)] <;> rfl) dX5_copy_46
    · refine lv_aload_n hx hb dX5_copy_14 rfl (lv_at hl 0 rfl) ?_
      refine x_ldc hx hb (-1000001) rfl hown (hts (.constant RX5 37 (-1000001)) (by decide +kernel)) dX5_copy_15 ?_
      refine x_callV (As := [.int (iI (-1000001))]) (rest := []) ⟨hx, hb, hml, hown, hts⟩ (kX5_finds r ik tn j F (-1000001) 0 (by omega) (by omega)) (cwV 1 hts gX5_copy_X5_finds rfl rfl rfl ykVX5_finds ⟨Nat.le_of_ble_eq_true rfl, Nat.le_of_ble_eq_true rfl⟩) hP hK hD hS 0 4 rfl rfl rfl [0, 5] rfl (by decide) (fun _ => rfl) (fun _ => wRo r ik tn j ++ (wA cI (r 1) 100 T ++ (wA cI (r 2) 100 K ++ (wA cI (r 3) 100 X ++ (wA cI (r 4) 100 Y ++ (wA cI (r 5) 8 (fR (bmp 0 F)) ++ (wA cI (r 6) 120 TB ++ (wA cI (r 7) 4 (bR SB) ++ (wA cI (r 8) 4 SS ++ (wA cI (r 9) 160 SN)))))))))) (fun _ => rfl) rfl hl.1 rfl (Nat.le_of_ble_eq_true rfl) dX5_copy_17 ⟨Nat.le_of_ble_eq_true rfl, Nat.le_of_ble_eq_true rfl⟩ (fun _ H locs _ hP hD hS => ?_)
      refine W.eq (g2 := F0 m 20 ls [.int (iI (-1000001))]) rfl ?_
      exact kend (((-1000001), T, K, ik, SB, SS, SN, tn, TB, (bmp 0 F)), X, Y, j) hP hS rfl (by first | exact ((if_pos (by omega))).symm | (unfold m_copy; (try simp only [Int.toNat_natCast]); rw [if_neg (by omega), if_neg (by omega), if_neg (by omega), if_neg (by omega)] <;> rfl)) dX5_copy_20
