theorem ykSX5_vinegar : yX5_vinegar.cls ≠ "java/lang/invoke/MethodHandle" ∧ yX5_vinegar.cls ≠ "java/lang/invoke/VarHandle" ∧ (parseMethodDescriptor yX5_vinegar.desc).map (fun d => d.parameters.length) = some 1 := by decide +kernel
theorem ykVX5_vinegar : yX5_vinegar.cls = RX5 ∧ yX5_vinegar.cls ≠ "java/lang/invoke/MethodHandle" ∧ yX5_vinegar.cls ≠ "java/lang/invoke/VarHandle" ∧ (parseMethodDescriptor yX5_vinegar.desc).map (fun d => d.parameters.length) = some 1 := ⟨rfl, ykSX5_vinegar⟩
set_option maxHeartbeats 4000000 in
set_option maxRecDepth 100000 in
theorem kX5_vinegar {l : Launch} {D : va_G} {cI cB : ClassId} (r : Nat → Nat) (T K : Tb) (ik : Int) (SB SS SN : Nat → Int) (tn : Int) (TB F : Nat → Int) (X Y : Tb) (j : Nat → Int) (v : Int) (B : Int) (hG : GI B T K ik SB SS SN tn TB F) (hB : B ≤ 40000) (h_v : rI v) : Ct l yX5_vinegar wsX5_vinegar 1 25 D [(cI, .int), (cB, .byte)] [.ref (r 0), .int (iI v)] (wM cI r (T, K, ik, SB, SS, SN, tn, TB, F) X Y j) (S := (Int × Gs) × Tb × Tb × (Nat → Int)) (fun u => some (.int (iI u.1.1))) (fun u => u.1 = m_vinegar v T K ik SB SS SN tn TB F) (fun u => wM cI r u.1.2 u.2.1 u.2.2.1 u.2.2.2) := by
  refine CtI.of (cc := cX5_vinegar) (maxL := 2) (by decide +kernel) rfl (Nat.le_of_ble_eq_true rfl) ?_
  intro pg e s m args below meth c Q A hx hb hml hts hown hP hK hD hS ls hl kend
  have hown : s.vm.findClass RX5 = some m.cls := hown
  have hl : lv_has ls 2 [(0, .ref (r 0)), (1, .int (iI v))] := hl
  obtain ⟨hI, hIK, hik, hSB, hSS, hSN, htn, hTB, hF⟩ := id hG
  have hn := Inv_n hI
  have hdy := Inv_d hI
  have hP : va_P D vwCl (wRo r ik tn j ++ (wA cI (r 1) 100 T ++ (wA cI (r 2) 100 K ++ (wA cI (r 3) 100 X ++ (wA cI (r 4) 100 Y ++ (wA cI (r 5) 8 (fR F) ++ (wA cI (r 6) 120 TB ++ (wA cI (r 7) 4 (bR SB) ++ (wA cI (r 8) 4 SS ++ (wA cI (r 9) 160 SN)))))))))) s.heap := hP
  have hD : va_D A (wRo r ik tn j ++ (wA cI (r 1) 100 T ++ (wA cI (r 2) 100 K ++ (wA cI (r 3) 100 X ++ (wA cI (r 4) 100 Y ++ (wA cI (r 5) 8 (fR F) ++ (wA cI (r 6) 120 TB ++ (wA cI (r 7) 4 (bR SB) ++ (wA cI (r 8) 4 SS ++ (wA cI (r 9) 160 SN)))))))))) := hD
  refine lv_iload_n hx hb dX5_vinegar_0 rfl (lv_at hl 1 rfl) ?_
  refine x_i2l hx hb (by omega) dX5_vinegar_1 ?_
  refine x_lconst hx hb 0 rfl dX5_vinegar_2 ?_
  refine x_ldc2 hx hb 9 rfl hown (hts (.constantLong RX5 43 (9)) (by decide +kernel)) dX5_vinegar_3 ?_
  refine x_callS (As := [.long (lI v), .long (lI 0), .long (lI 9)]) (rest := []) ⟨hx, hb, hml, hown, hts⟩ (kX5_isIn v 0 9 (by omega) (by omega) (by omega)) (va_cwS 3 hts gX5_vinegar_X5_isIn rfl rfl rfl ykSX5_isIn ⟨Nat.le_of_ble_eq_true rfl, Nat.le_of_ble_eq_true rfl⟩) hP hK hD hS [] rfl (by decide) (fun _ => rfl) (fun _ => wRo r ik tn j ++ (wA cI (r 1) 100 T ++ (wA cI (r 2) 100 K ++ (wA cI (r 3) 100 X ++ (wA cI (r 4) 100 Y ++ (wA cI (r 5) 8 (fR F) ++ (wA cI (r 6) 120 TB ++ (wA cI (r 7) 4 (bR SB) ++ (wA cI (r 8) 4 SS ++ (wA cI (r 9) 160 SN)))))))))) (fun _ => rfl) rfl hl.1 rfl (Nat.le_of_ble_eq_true rfl) dX5_vinegar_6 ⟨Nat.le_of_ble_eq_true rfl, Nat.le_of_ble_eq_true rfl⟩ (fun _ H locs _ hP hD hS => ?_)
  refine W.eq (g2 := F0 m 9 ls [.int (iI (b2 (decide (0 ≤ v ∧ v ≤ 9))))]) rfl ?_
  refine x_ifb_eq (tgt := 21) hx hb dX5_vinegar_9 (by decide) (fun c_9 => ?_) (fun c_9 => ?_)
  · refine lv_aload_n hx hb dX5_vinegar_21 rfl (lv_at hl 0 rfl) ?_
    refine x_ldc hx hb (-1000001) rfl hown (hts (.constant RX5 37 (-1000001)) (by decide +kernel)) dX5_vinegar_22 ?_
    refine x_callV (As := [.int (iI (-1000001))]) (rest := []) ⟨hx, hb, hml, hown, hts⟩ (kX5_finds r ik tn j F (-1000001) 0 (by omega) (by omega)) (cwV 1 hts gX5_vinegar_X5_finds rfl rfl rfl ykVX5_finds ⟨Nat.le_of_ble_eq_true rfl, Nat.le_of_ble_eq_true rfl⟩) hP hK hD hS 0 4 rfl rfl rfl [0, 5] rfl (by decide) (fun _ => rfl) (fun _ => wRo r ik tn j ++ (wA cI (r 1) 100 T ++ (wA cI (r 2) 100 K ++ (wA cI (r 3) 100 X ++ (wA cI (r 4) 100 Y ++ (wA cI (r 5) 8 (fR (bmp 0 F)) ++ (wA cI (r 6) 120 TB ++ (wA cI (r 7) 4 (bR SB) ++ (wA cI (r 8) 4 SS ++ (wA cI (r 9) 160 SN)))))))))) (fun _ => rfl) rfl hl.1 rfl (Nat.le_of_ble_eq_true rfl) dX5_vinegar_24 ⟨Nat.le_of_ble_eq_true rfl, Nat.le_of_ble_eq_true rfl⟩ (fun _ H locs _ hP hD hS => ?_)
    refine W.eq (g2 := F0 m 27 ls [.int (iI (-1000001))]) rfl ?_
    exact kend (((-1000001), T, K, ik, SB, SS, SN, tn, TB, (bmp 0 F)), X, Y, j) hP hS rfl (if_neg (by omega)).symm dX5_vinegar_27
  · refine lv_aload_n hx hb dX5_vinegar_12 rfl (lv_at hl 0 rfl) ?_
    refine x_iconst hx hb dX5_vinegar_13 ?_
    refine lv_iload_n hx hb dX5_vinegar_14 rfl (lv_at hl 1 rfl) ?_
    refine x_callV (As := [.int (iI 3), .int (iI v)]) (rest := []) ⟨hx, hb, hml, hown, hts⟩ (kX5_becomes r ik tn j T 3 v (by omega)) (cwV 2 hts gX5_vinegar_X5_becomes rfl rfl rfl ykVX5_becomes ⟨Nat.le_of_ble_eq_true rfl, Nat.le_of_ble_eq_true rfl⟩) hP hK hD hS 0 4 rfl rfl rfl [0, 1] rfl (by decide) (fun _ => rfl) (fun _ => wRo r ik tn j ++ (wA cI (r 1) 100 (va_up T 3 v) ++ (wA cI (r 2) 100 K ++ (wA cI (r 3) 100 X ++ (wA cI (r 4) 100 Y ++ (wA cI (r 5) 8 (fR F) ++ (wA cI (r 6) 120 TB ++ (wA cI (r 7) 4 (bR SB) ++ (wA cI (r 8) 4 SS ++ (wA cI (r 9) 160 SN)))))))))) (fun _ => rfl) rfl hl.1 rfl (Nat.le_of_ble_eq_true rfl) dX5_vinegar_15 ⟨Nat.le_of_ble_eq_true rfl, Nat.le_of_ble_eq_true rfl⟩ (fun _ H locs _ hP hD hS => ?_)
    refine W.eq (g2 := F0 m 18 ls [.int (iI (T 3))]) rfl ?_
    refine lv_goto (tgt := 27) hx hb dX5_vinegar_18 (by decide) ?_
    exact kend ((T 3, (va_up T 3 v), K, ik, SB, SS, SN, tn, TB, F), X, Y, j) hP hS rfl (if_pos (by omega)).symm dX5_vinegar_27
theorem ykSX5_list : yX5_list.cls ≠ "java/lang/invoke/MethodHandle" ∧ yX5_list.cls ≠ "java/lang/invoke/VarHandle" ∧ (parseMethodDescriptor yX5_list.desc).map (fun d => d.parameters.length) = some 2 := by decide +kernel
theorem ykVX5_list : yX5_list.cls = RX5 ∧ yX5_list.cls ≠ "java/lang/invoke/MethodHandle" ∧ yX5_list.cls ≠ "java/lang/invoke/VarHandle" ∧ (parseMethodDescriptor yX5_list.desc).map (fun d => d.parameters.length) = some 2 := ⟨rfl, ykSX5_list⟩
set_option maxHeartbeats 4000000 in
set_option maxRecDepth 100000 in
theorem kX5_list {l : Launch} {D : va_G} {cI cB : ClassId} (r : Nat → Nat) (T K : Tb) (ik : Int) (SB SS SN : Nat → Int) (tn : Int) (TB F : Nat → Int) (X Y : Tb) (j : Nat → Int) (t v : Int) (B : Int) (hG : GI B T K ik SB SS SN tn TB F) (hB : B ≤ 40000) (h_t : rI t) (h_v : rI v) : Ct l yX5_list wsX5_list 1 25 D [(cI, .int), (cB, .byte)] [.ref (r 0), .int (iI t), .int (iI v)] (wM cI r (T, K, ik, SB, SS, SN, tn, TB, F) X Y j) (S := (Int × Gs) × Tb × Tb × (Nat → Int)) (fun u => some (.int (iI u.1.1))) (fun u => u.1 = m_list t v T K ik SB SS SN tn TB F) (fun u => wM cI r u.1.2 u.2.1 u.2.2.1 u.2.2.2) := by
  refine CtI.of (cc := cX5_list) (maxL := 3) (by decide +kernel) rfl (Nat.le_of_ble_eq_true rfl) ?_
  intro pg e s m args below meth c Q A hx hb hml hts hown hP hK hD hS ls hl kend
  have hown : s.vm.findClass RX5 = some m.cls := hown
  have hl : lv_has ls 3 [(0, .ref (r 0)), (1, .int (iI t)), (2, .int (iI v))] := hl
  obtain ⟨hI, hIK, hik, hSB, hSS, hSN, htn, hTB, hF⟩ := id hG
  have hn := Inv_n hI
  have hdy := Inv_d hI
  have hP : va_P D vwCl (wRo r ik tn j ++ (wA cI (r 1) 100 T ++ (wA cI (r 2) 100 K ++ (wA cI (r 3) 100 X ++ (wA cI (r 4) 100 Y ++ (wA cI (r 5) 8 (fR F) ++ (wA cI (r 6) 120 TB ++ (wA cI (r 7) 4 (bR SB) ++ (wA cI (r 8) 4 SS ++ (wA cI (r 9) 160 SN)))))))))) s.heap := hP
  have hD : va_D A (wRo r ik tn j ++ (wA cI (r 1) 100 T ++ (wA cI (r 2) 100 K ++ (wA cI (r 3) 100 X ++ (wA cI (r 4) 100 Y ++ (wA cI (r 5) 8 (fR F) ++ (wA cI (r 6) 120 TB ++ (wA cI (r 7) 4 (bR SB) ++ (wA cI (r 8) 4 SS ++ (wA cI (r 9) 160 SN)))))))))) := hD
  refine lv_iload_n hx hb dX5_list_0 rfl (lv_at hl 1 rfl) ?_
  refine x_callS (As := [.int (iI t)]) (rest := []) ⟨hx, hb, hml, hown, hts⟩ (kX5_isTaste t (by omega)) (va_cwS 1 hts gX5_list_X5_isTaste rfl rfl rfl ykSX5_isTaste ⟨Nat.le_of_ble_eq_true rfl, Nat.le_of_ble_eq_true rfl⟩) hP hK hD hS [] rfl (by decide) (fun _ => rfl) (fun _ => wRo r ik tn j ++ (wA cI (r 1) 100 T ++ (wA cI (r 2) 100 K ++ (wA cI (r 3) 100 X ++ (wA cI (r 4) 100 Y ++ (wA cI (r 5) 8 (fR F) ++ (wA cI (r 6) 120 TB ++ (wA cI (r 7) 4 (bR SB) ++ (wA cI (r 8) 4 SS ++ (wA cI (r 9) 160 SN)))))))))) (fun _ => rfl) rfl hl.1 rfl (Nat.le_of_ble_eq_true rfl) dX5_list_1 ⟨Nat.le_of_ble_eq_true rfl, Nat.le_of_ble_eq_true rfl⟩ (fun _ H locs _ hP hD hS => ?_)
  refine W.eq (g2 := F0 m 4 ls [.int (iI (b2 (decide (0 ≤ t ∧ t < 6))))]) rfl ?_
  refine x_ifb_eq (tgt := 30) hx hb dX5_list_4 (by decide) (fun c_4 => ?_) (fun c_4 => ?_)
  · refine lv_aload_n hx hb dX5_list_30 rfl (lv_at hl 0 rfl) ?_
    refine x_ldc hx hb (-1000001) rfl hown (hts (.constant RX5 37 (-1000001)) (by decide +kernel)) dX5_list_31 ?_
    refine x_callV (As := [.int (iI (-1000001))]) (rest := []) ⟨hx, hb, hml, hown, hts⟩ (kX5_finds r ik tn j F (-1000001) 0 (by omega) (by omega)) (cwV 1 hts gX5_list_X5_finds rfl rfl rfl ykVX5_finds ⟨Nat.le_of_ble_eq_true rfl, Nat.le_of_ble_eq_true rfl⟩) hP hK hD hS 0 4 rfl rfl rfl [0, 5] rfl (by decide) (fun _ => rfl) (fun _ => wRo r ik tn j ++ (wA cI (r 1) 100 T ++ (wA cI (r 2) 100 K ++ (wA cI (r 3) 100 X ++ (wA cI (r 4) 100 Y ++ (wA cI (r 5) 8 (fR (bmp 0 F)) ++ (wA cI (r 6) 120 TB ++ (wA cI (r 7) 4 (bR SB) ++ (wA cI (r 8) 4 SS ++ (wA cI (r 9) 160 SN)))))))))) (fun _ => rfl) rfl hl.1 rfl (Nat.le_of_ble_eq_true rfl) dX5_list_33 ⟨Nat.le_of_ble_eq_true rfl, Nat.le_of_ble_eq_true rfl⟩ (fun _ H locs _ hP hD hS => ?_)
    refine W.eq (g2 := F0 m 36 ls [.int (iI (-1000001))]) rfl ?_
    exact kend (((-1000001), T, K, ik, SB, SS, SN, tn, TB, (bmp 0 F)), X, Y, j) hP hS rfl (if_neg (by omega)).symm dX5_list_36
  · refine lv_iload_n hx hb dX5_list_7 rfl (lv_at hl 2 rfl) ?_
    refine x_i2l hx hb (by omega) dX5_list_8 ?_
    refine x_lconst hx hb 0 rfl dX5_list_9 ?_
    refine x_ldc2 hx hb 20 rfl hown (hts (.constantLong RX5 57 (20)) (by decide +kernel)) dX5_list_10 ?_
    refine x_callS (As := [.long (lI v), .long (lI 0), .long (lI 20)]) (rest := []) ⟨hx, hb, hml, hown, hts⟩ (kX5_isIn v 0 20 (by omega) (by omega) (by omega)) (va_cwS 3 hts gX5_list_X5_isIn rfl rfl rfl ykSX5_isIn ⟨Nat.le_of_ble_eq_true rfl, Nat.le_of_ble_eq_true rfl⟩) hP hK hD hS [] rfl (by decide) (fun _ => rfl) (fun _ => wRo r ik tn j ++ (wA cI (r 1) 100 T ++ (wA cI (r 2) 100 K ++ (wA cI (r 3) 100 X ++ (wA cI (r 4) 100 Y ++ (wA cI (r 5) 8 (fR F) ++ (wA cI (r 6) 120 TB ++ (wA cI (r 7) 4 (bR SB) ++ (wA cI (r 8) 4 SS ++ (wA cI (r 9) 160 SN)))))))))) (fun _ => rfl) rfl hl.1 rfl (Nat.le_of_ble_eq_true rfl) dX5_list_13 ⟨Nat.le_of_ble_eq_true rfl, Nat.le_of_ble_eq_true rfl⟩ (fun _ H locs _ hP hD hS => ?_)
    refine W.eq (g2 := F0 m 16 ls [.int (iI (b2 (decide (0 ≤ v ∧ v ≤ 20))))]) rfl ?_
    refine x_ifb_eq (tgt := 30) hx hb dX5_list_16 (by decide) (fun c_16 => ?_) (fun c_16 => ?_)
    · refine lv_aload_n hx hb dX5_list_30 rfl (lv_at hl 0 rfl) ?_
      refine x_ldc hx hb (-1000001) rfl hown (hts (.constant RX5 37 (-1000001)) (by decide +kernel)) dX5_list_31 ?_
      refine x_callV (As := [.int (iI (-1000001))]) (rest := []) ⟨hx, hb, hml, hown, hts⟩ (kX5_finds r ik tn j F (-1000001) 0 (by omega) (by omega)) (cwV 1 hts gX5_list_X5_finds rfl rfl rfl ykVX5_finds ⟨Nat.le_of_ble_eq_true rfl, Nat.le_of_ble_eq_true rfl⟩) hP hK hD hS 0 4 rfl rfl rfl [0, 5] rfl (by decide) (fun _ => rfl) (fun _ => wRo r ik tn j ++ (wA cI (r 1) 100 T ++ (wA cI (r 2) 100 K ++ (wA cI (r 3) 100 X ++ (wA cI (r 4) 100 Y ++ (wA cI (r 5) 8 (fR (bmp 0 F)) ++ (wA cI (r 6) 120 TB ++ (wA cI (r 7) 4 (bR SB) ++ (wA cI (r 8) 4 SS ++ (wA cI (r 9) 160 SN)))))))))) (fun _ => rfl) rfl hl.1 rfl (Nat.le_of_ble_eq_true rfl) dX5_list_33 ⟨Nat.le_of_ble_eq_true rfl, Nat.le_of_ble_eq_true rfl⟩ (fun _ H locs _ hP hD hS => ?_)
      refine W.eq (g2 := F0 m 36 ls [.int (iI (-1000001))]) rfl ?_
      exact kend (((-1000001), T, K, ik, SB, SS, SN, tn, TB, (bmp 0 F)), X, Y, j) hP hS rfl (if_neg (by omega)).symm dX5_list_36
    · refine lv_aload_n hx hb dX5_list_19 rfl (lv_at hl 0 rfl) ?_
      obtain ⟨t0, rfl⟩ : ∃ t0 : Nat, t = (t0 : Int) := ⟨t.toNat, by omega⟩
      refine x_iconst hx hb dX5_list_20 ?_
      refine lv_iload_n hx hb dX5_list_21 rfl (lv_at hl 1 rfl) ?_
      refine x_iadd hx hb dX5_list_22 ?_
      refine x_topi ((4 + t0 : Nat) : Int) (by omega) ?_
      refine lv_iload_n hx hb dX5_list_23 rfl (lv_at hl 2 rfl) ?_
      refine x_callV (As := [.int (iI ((4 + t0 : Nat) : Int)), .int (iI v)]) (rest := []) ⟨hx, hb, hml, hown, hts⟩ (kX5_becomes r ik tn j T (4 + t0) v (by omega)) (cwV 2 hts gX5_list_X5_becomes rfl rfl rfl ykVX5_becomes ⟨Nat.le_of_ble_eq_true rfl, Nat.le_of_ble_eq_true rfl⟩) hP hK hD hS 0 4 rfl rfl rfl [0, 1] rfl (by decide) (fun _ => rfl) (fun _ => wRo r ik tn j ++ (wA cI (r 1) 100 (va_up T (4 + t0) v) ++ (wA cI (r 2) 100 K ++ (wA cI (r 3) 100 X ++ (wA cI (r 4) 100 Y ++ (wA cI (r 5) 8 (fR F) ++ (wA cI (r 6) 120 TB ++ (wA cI (r 7) 4 (bR SB) ++ (wA cI (r 8) 4 SS ++ (wA cI (r 9) 160 SN)))))))))) (fun _ => rfl) rfl hl.1 rfl (Nat.le_of_ble_eq_true rfl) dX5_list_24 ⟨Nat.le_of_ble_eq_true rfl, Nat.le_of_ble_eq_true rfl⟩ (fun _ H locs _ hP hD hS => ?_)
      refine W.eq (g2 := F0 m 27 ls [.int (iI (T (4 + t0)))]) rfl ?_
      refine lv_goto (tgt := 36) hx hb dX5_list_27 (by decide) ?_
      exact kend ((T (4 + t0), (va_up T (4 + t0) v), K, ik, SB, SS, SN, tn, TB, F), X, Y, j) hP hS rfl (if_pos (by omega)).symm dX5_list_36
theorem ykSX5_listed : yX5_listed.cls ≠ "java/lang/invoke/MethodHandle" ∧ yX5_listed.cls ≠ "java/lang/invoke/VarHandle" ∧ (parseMethodDescriptor yX5_listed.desc).map (fun d => d.parameters.length) = some 1 := by decide +kernel
theorem ykVX5_listed : yX5_listed.cls = RX5 ∧ yX5_listed.cls ≠ "java/lang/invoke/MethodHandle" ∧ yX5_listed.cls ≠ "java/lang/invoke/VarHandle" ∧ (parseMethodDescriptor yX5_listed.desc).map (fun d => d.parameters.length) = some 1 := ⟨rfl, ykSX5_listed⟩
set_option maxRecDepth 20000 in
theorem iT_X5_listed_X5 : ∀ w ∈ u_ws RX5 TX5 18, w ∈ wsX5_listed := by decide +kernel
set_option maxHeartbeats 4000000 in
set_option maxRecDepth 100000 in
theorem kX5_listed {l : Launch} {D : va_G} {cI cB : ClassId} (r : Nat → Nat) (T K : Tb) (ik : Int) (SB SS SN : Nat → Int) (tn : Int) (TB F : Nat → Int) (X Y : Tb) (j : Nat → Int) (t : Int) (B : Int) (hG : GI B T K ik SB SS SN tn TB F) (hB : B ≤ 40000) (h_t : rI t) : Ct l yX5_listed wsX5_listed 1 21 D [(cI, .int), (cB, .byte)] [.ref (r 0), .int (iI t)] (wM cI r (T, K, ik, SB, SS, SN, tn, TB, F) X Y j) (S := (Int × Gs) × Tb × Tb × (Nat → Int)) (fun u => some (.int (iI u.1.1))) (fun u => u.1 = m_listed t T K ik SB SS SN tn TB F) (fun u => wM cI r u.1.2 u.2.1 u.2.2.1 u.2.2.2) := by
  refine CtI.of (cc := cX5_listed) (maxL := 2) (by decide +kernel) rfl (Nat.le_of_ble_eq_true rfl) ?_
  intro pg e s m args below meth c Q A hx hb hml hts hown hP hK hD hS ls hl kend
  have hown : s.vm.findClass RX5 = some m.cls := hown
  have hl : lv_has ls 2 [(0, .ref (r 0)), (1, .int (iI t))] := hl
  obtain ⟨hI, hIK, hik, hSB, hSS, hSN, htn, hTB, hF⟩ := id hG
  have hn := Inv_n hI
  have hdy := Inv_d hI
  have hP : va_P D vwCl (wRo r ik tn j ++ (wA cI (r 1) 100 T ++ (wA cI (r 2) 100 K ++ (wA cI (r 3) 100 X ++ (wA cI (r 4) 100 Y ++ (wA cI (r 5) 8 (fR F) ++ (wA cI (r 6) 120 TB ++ (wA cI (r 7) 4 (bR SB) ++ (wA cI (r 8) 4 SS ++ (wA cI (r 9) 160 SN)))))))))) s.heap := hP
  have hD : va_D A (wRo r ik tn j ++ (wA cI (r 1) 100 T ++ (wA cI (r 2) 100 K ++ (wA cI (r 3) 100 X ++ (wA cI (r 4) 100 Y ++ (wA cI (r 5) 8 (fR F) ++ (wA cI (r 6) 120 TB ++ (wA cI (r 7) 4 (bR SB) ++ (wA cI (r 8) 4 SS ++ (wA cI (r 9) 160 SN)))))))))) := hD
  refine lv_iload_n hx hb dX5_listed_0 rfl (lv_at hl 1 rfl) ?_
  refine x_callS (As := [.int (iI t)]) (rest := []) ⟨hx, hb, hml, hown, hts⟩ (kX5_isTaste t (by omega)) (va_cwS 1 hts gX5_listed_X5_isTaste rfl rfl rfl ykSX5_isTaste ⟨Nat.le_of_ble_eq_true rfl, Nat.le_of_ble_eq_true rfl⟩) hP hK hD hS [] rfl (by decide) (fun _ => rfl) (fun _ => wRo r ik tn j ++ (wA cI (r 1) 100 T ++ (wA cI (r 2) 100 K ++ (wA cI (r 3) 100 X ++ (wA cI (r 4) 100 Y ++ (wA cI (r 5) 8 (fR F) ++ (wA cI (r 6) 120 TB ++ (wA cI (r 7) 4 (bR SB) ++ (wA cI (r 8) 4 SS ++ (wA cI (r 9) 160 SN)))))))))) (fun _ => rfl) rfl hl.1 rfl (Nat.le_of_ble_eq_true rfl) dX5_listed_1 ⟨Nat.le_of_ble_eq_true rfl, Nat.le_of_ble_eq_true rfl⟩ (fun _ H locs _ hP hD hS => ?_)
  refine W.eq (g2 := F0 m 4 ls [.int (iI (b2 (decide (0 ≤ t ∧ t < 6))))]) rfl ?_
  refine x_ifb_eq (tgt := 18) hx hb dX5_listed_4 (by decide) (fun c_4 => ?_) (fun c_4 => ?_)
  · refine lv_aload_n hx hb dX5_listed_18 rfl (lv_at hl 0 rfl) ?_
    refine x_ldc hx hb (-1000001) rfl hown (hts (.constant RX5 37 (-1000001)) (by decide +kernel)) dX5_listed_19 ?_
    refine x_callV (As := [.int (iI (-1000001))]) (rest := []) ⟨hx, hb, hml, hown, hts⟩ (kX5_finds r ik tn j F (-1000001) 0 (by omega) (by omega)) (cwV 1 hts gX5_listed_X5_finds rfl rfl rfl ykVX5_finds ⟨Nat.le_of_ble_eq_true rfl, Nat.le_of_ble_eq_true rfl⟩) hP hK hD hS 0 4 rfl rfl rfl [0, 5] rfl (by decide) (fun _ => rfl) (fun _ => wRo r ik tn j ++ (wA cI (r 1) 100 T ++ (wA cI (r 2) 100 K ++ (wA cI (r 3) 100 X ++ (wA cI (r 4) 100 Y ++ (wA cI (r 5) 8 (fR (bmp 0 F)) ++ (wA cI (r 6) 120 TB ++ (wA cI (r 7) 4 (bR SB) ++ (wA cI (r 8) 4 SS ++ (wA cI (r 9) 160 SN)))))))))) (fun _ => rfl) rfl hl.1 rfl (Nat.le_of_ble_eq_true rfl) dX5_listed_21 ⟨Nat.le_of_ble_eq_true rfl, Nat.le_of_ble_eq_true rfl⟩ (fun _ H locs _ hP hD hS => ?_)
    refine W.eq (g2 := F0 m 24 ls [.int (iI (-1000001))]) rfl ?_
    exact kend (((-1000001), T, K, ik, SB, SS, SN, tn, TB, (bmp 0 F)), X, Y, j) hP hS rfl (if_neg (by omega)).symm dX5_listed_24
  · refine lv_aload_n hx hb dX5_listed_7 rfl (lv_at hl 0 rfl) ?_
    refine va_get (D := D) (ci := 4) (v := .ref (r 1)) (C := RX5) (T := TX5) (N := 18) hx hb hts (iT_X5_listed_X5) hown hK hP 0 rfl rfl 0 (by decide) (hts (.fieldLink RX5 7 "WordSupperModel" "s" "[I") (by decide +kernel)) (fun _ h9 => h9) rfl dX5_listed_8 ?_
    obtain ⟨t0, rfl⟩ : ∃ t0 : Nat, t = (t0 : Int) := ⟨t.toNat, by omega⟩
    refine x_iconst hx hb dX5_listed_11 ?_
    refine lv_iload_n hx hb dX5_listed_12 rfl (lv_at hl 1 rfl) ?_
    refine x_iadd hx hb dX5_listed_13 ?_
    refine x_topi ((4 + t0 : Nat) : Int) (by omega) ?_
    refine x_iald hx hb hK hP 1 0 rfl rfl (4 + t0) rfl (by omega) (by decide) (T (4 + t0)) (gd_at _ (by omega)) dX5_listed_14 ?_
    refine lv_goto (tgt := 24) hx hb dX5_listed_15 (by decide) ?_
    exact kend ((T (4 + t0), T, K, ik, SB, SS, SN, tn, TB, F), X, Y, j) hP hS rfl (if_pos (by omega)).symm dX5_listed_24
theorem ykSX5_speaker : yX5_speaker.cls ≠ "java/lang/invoke/MethodHandle" ∧ yX5_speaker.cls ≠ "java/lang/invoke/VarHandle" ∧ (parseMethodDescriptor yX5_speaker.desc).map (fun d => d.parameters.length) = some 1 := by decide +kernel
theorem ykVX5_speaker : yX5_speaker.cls = RX5 ∧ yX5_speaker.cls ≠ "java/lang/invoke/MethodHandle" ∧ yX5_speaker.cls ≠ "java/lang/invoke/VarHandle" ∧ (parseMethodDescriptor yX5_speaker.desc).map (fun d => d.parameters.length) = some 1 := ⟨rfl, ykSX5_speaker⟩
set_option maxRecDepth 20000 in
theorem iT_X5_speaker_X5 : ∀ w ∈ u_ws RX5 TX5 18, w ∈ wsX5_speaker := by decide +kernel
set_option maxHeartbeats 4000000 in
set_option maxRecDepth 100000 in
theorem kX5_speaker {l : Launch} {D : va_G} {cI cB : ClassId} (r : Nat → Nat) (T K : Tb) (ik : Int) (SB SS SN : Nat → Int) (tn : Int) (TB F : Nat → Int) (X Y : Tb) (j : Nat → Int) (kd : Int) (B : Int) (hG : GI B T K ik SB SS SN tn TB F) (hB : B ≤ 40000) (h_kd : rI kd) : Ct l yX5_speaker wsX5_speaker 2 44 D [(cI, .int), (cB, .byte)] [.ref (r 0), .int (iI kd)] (wM cI r (T, K, ik, SB, SS, SN, tn, TB, F) X Y j) (S := (Int × Gs) × Tb × Tb × (Nat → Int)) (fun u => some (.int (iI u.1.1))) (fun u => u.1 = m_speaker kd T K ik SB SS SN tn TB F) (fun u => wM cI r u.1.2 u.2.1 u.2.2.1 u.2.2.2) := by
  refine CtI.of (cc := cX5_speaker) (maxL := 2) (by decide +kernel) rfl (Nat.le_of_ble_eq_true rfl) ?_
  intro pg e s m args below meth c Q A hx hb hml hts hown hP hK hD hS ls hl kend
  have hown : s.vm.findClass RX5 = some m.cls := hown
  have hl : lv_has ls 2 [(0, .ref (r 0)), (1, .int (iI kd))] := hl
  obtain ⟨hI, hIK, hik, hSB, hSS, hSN, htn, hTB, hF⟩ := id hG
  have hn := Inv_n hI
  have hdy := Inv_d hI
  have hP : va_P D vwCl (wRo r ik tn j ++ (wA cI (r 1) 100 T ++ (wA cI (r 2) 100 K ++ (wA cI (r 3) 100 X ++ (wA cI (r 4) 100 Y ++ (wA cI (r 5) 8 (fR F) ++ (wA cI (r 6) 120 TB ++ (wA cI (r 7) 4 (bR SB) ++ (wA cI (r 8) 4 SS ++ (wA cI (r 9) 160 SN)))))))))) s.heap := hP
  have hD : va_D A (wRo r ik tn j ++ (wA cI (r 1) 100 T ++ (wA cI (r 2) 100 K ++ (wA cI (r 3) 100 X ++ (wA cI (r 4) 100 Y ++ (wA cI (r 5) 8 (fR F) ++ (wA cI (r 6) 120 TB ++ (wA cI (r 7) 4 (bR SB) ++ (wA cI (r 8) 4 SS ++ (wA cI (r 9) 160 SN)))))))))) := hD
  refine lv_iload_n hx hb dX5_speaker_0 rfl (lv_at hl 1 rfl) ?_
  refine x_i2l hx hb (by omega) dX5_speaker_1 ?_
  refine x_lconst hx hb 0 rfl dX5_speaker_2 ?_
  refine x_ldc2 hx hb 6 rfl hown (hts (.constantLong RX5 62 (6)) (by decide +kernel)) dX5_speaker_3 ?_
  refine x_callS (As := [.long (lI kd), .long (lI 0), .long (lI 6)]) (rest := []) ⟨hx, hb, hml, hown, hts⟩ (kX5_isIn kd 0 6 (by omega) (by omega) (by omega)) (va_cwS 3 hts gX5_speaker_X5_isIn rfl rfl rfl ykSX5_isIn ⟨Nat.le_of_ble_eq_true rfl, Nat.le_of_ble_eq_true rfl⟩) hP hK hD hS [] rfl (by decide) (fun _ => rfl) (fun _ => wRo r ik tn j ++ (wA cI (r 1) 100 T ++ (wA cI (r 2) 100 K ++ (wA cI (r 3) 100 X ++ (wA cI (r 4) 100 Y ++ (wA cI (r 5) 8 (fR F) ++ (wA cI (r 6) 120 TB ++ (wA cI (r 7) 4 (bR SB) ++ (wA cI (r 8) 4 SS ++ (wA cI (r 9) 160 SN)))))))))) (fun _ => rfl) rfl hl.1 rfl (Nat.le_of_ble_eq_true rfl) dX5_speaker_6 ⟨Nat.le_of_ble_eq_true rfl, Nat.le_of_ble_eq_true rfl⟩ (fun _ H locs _ hP hD hS => ?_)
  refine W.eq (g2 := F0 m 9 ls [.int (iI (b2 (decide (0 ≤ kd ∧ kd ≤ 6))))]) rfl ?_
  refine x_ifb_ne (tgt := 19) hx hb dX5_speaker_9 (by decide) (fun c_9 => ?_) (fun c_9 => ?_)
  · refine lv_aload_n hx hb dX5_speaker_19 rfl (lv_at hl 0 rfl) ?_
    refine va_get (D := D) (ci := 4) (v := .ref (r 1)) (C := RX5) (T := TX5) (N := 18) hx hb hts (iT_X5_speaker_X5) hown hK hP 0 rfl rfl 0 (by decide) (hts (.fieldLink RX5 7 "WordSupperModel" "s" "[I") (by decide +kernel)) (fun _ h9 => h9) rfl dX5_speaker_20 ?_
    refine x_iconst hx hb dX5_speaker_23 ?_
    refine x_iald hx hb hK hP 1 0 rfl rfl 0 rfl (by omega) (by decide) (T 0) (gd_at _ (by omega)) dX5_speaker_24 ?_
    refine x_bipush hx hb dX5_speaker_25 (by decide) ?_
    refine x_icmp_ne (tgt := 37) hx hb (by omega) (by decide) dX5_speaker_27 (by decide) (fun c_27 => ?_) (fun c_27 => ?_)
    · refine lv_aload_n hx hb dX5_speaker_37 rfl (lv_at hl 0 rfl) ?_
      refine lv_iload_n hx hb dX5_speaker_38 rfl (lv_at hl 1 rfl) ?_
      refine x_callV (As := [.int (iI kd)]) (rest := []) ⟨hx, hb, hml, hown, hts⟩ (kX5_comes r ik tn j T kd (T 0).toNat (by omega) (by omega) (by omega)) (cwV 1 hts gX5_speaker_X5_comes rfl rfl rfl ykVX5_comes ⟨Nat.le_of_ble_eq_true rfl, Nat.le_of_ble_eq_true rfl⟩) hP hK hD hS 0 4 rfl rfl rfl [0, 1] rfl (by decide) (fun _ => rfl) (fun u => wRo r ik tn j ++ (wA cI (r 1) 100 u ++ (wA cI (r 2) 100 K ++ (wA cI (r 3) 100 X ++ (wA cI (r 4) 100 Y ++ (wA cI (r 5) 8 (fR F) ++ (wA cI (r 6) 120 TB ++ (wA cI (r 7) 4 (bR SB) ++ (wA cI (r 8) 4 SS ++ (wA cI (r 9) 160 SN)))))))))) (fun _ => rfl) rfl hl.1 rfl (Nat.le_of_ble_eq_true rfl) dX5_speaker_39 ⟨Nat.le_of_ble_eq_true rfl, Nat.le_of_ble_eq_true rfl⟩ (fun u2 H locs hp3 hP hD hS => ?_)
      obtain ⟨T11, rfl⟩ : ∃ z, z = u2 := ⟨_, rfl⟩
      replace hp3 : T11 = stF kd (T 0).toNat T := hp3
      have hP : va_P D vwCl (wRo r ik tn j ++ (wA cI (r 1) 100 T11 ++ (wA cI (r 2) 100 K ++ (wA cI (r 3) 100 X ++ (wA cI (r 4) 100 Y ++ (wA cI (r 5) 8 (fR F) ++ (wA cI (r 6) 120 TB ++ (wA cI (r 7) 4 (bR SB) ++ (wA cI (r 8) 4 SS ++ (wA cI (r 9) 160 SN)))))))))) H := hP
      have hD : va_D A (wRo r ik tn j ++ (wA cI (r 1) 100 T11 ++ (wA cI (r 2) 100 K ++ (wA cI (r 3) 100 X ++ (wA cI (r 4) 100 Y ++ (wA cI (r 5) 8 (fR F) ++ (wA cI (r 6) 120 TB ++ (wA cI (r 7) 4 (bR SB) ++ (wA cI (r 8) 4 SS ++ (wA cI (r 9) 160 SN)))))))))) := hD
      refine W.eq (g2 := F0 m 42 ls []) rfl ?_
      refine lv_aload_n hx hb dX5_speaker_42 rfl (lv_at hl 0 rfl) ?_
      refine va_get (D := D) (ci := 4) (v := .ref (r 1)) (C := RX5) (T := TX5) (N := 18) hx hb hts (iT_X5_speaker_X5) hown hK hP 0 rfl rfl 0 (by decide) (hts (.fieldLink RX5 7 "WordSupperModel" "s" "[I") (by decide +kernel)) (fun _ h9 => h9) rfl dX5_speaker_43 ?_
      refine x_iconst hx hb dX5_speaker_46 ?_
      refine x_iald hx hb hK hP 1 0 rfl rfl 0 rfl (by omega) (by decide) (T11 0) (gd_at _ (by omega)) dX5_speaker_47 ?_
      refine x_iconst hx hb dX5_speaker_48 ?_
      refine x_isub hx hb dX5_speaker_49 ?_
      refine x_topi (T 0) (by rw [hp3, st_0]; omega) ?_
      exact kend ((T 0, T11, K, ik, SB, SS, SN, tn, TB, F), X, Y, j) hP hS rfl (by rw [hp3]; unfold m_speaker; rw [if_neg (by omega), if_neg (by omega)]) dX5_speaker_50
    · refine lv_aload_n hx hb dX5_speaker_30 rfl (lv_at hl 0 rfl) ?_
      refine x_ldc hx hb (-1000002) rfl hown (hts (.constant RX5 64 (-1000002)) (by decide +kernel)) dX5_speaker_31 ?_
      refine x_callV (As := [.int (iI (-1000002))]) (rest := []) ⟨hx, hb, hml, hown, hts⟩ (kX5_finds r ik tn j F (-1000002) 1 (by omega) (by omega)) (cwV 1 hts gX5_speaker_X5_finds rfl rfl rfl ykVX5_finds ⟨Nat.le_of_ble_eq_true rfl, Nat.le_of_ble_eq_true rfl⟩) hP hK hD hS 0 4 rfl rfl rfl [0, 5] rfl (by decide) (fun _ => rfl) (fun _ => wRo r ik tn j ++ (wA cI (r 1) 100 T ++ (wA cI (r 2) 100 K ++ (wA cI (r 3) 100 X ++ (wA cI (r 4) 100 Y ++ (wA cI (r 5) 8 (fR (bmp 1 F)) ++ (wA cI (r 6) 120 TB ++ (wA cI (r 7) 4 (bR SB) ++ (wA cI (r 8) 4 SS ++ (wA cI (r 9) 160 SN)))))))))) (fun _ => rfl) rfl hl.1 rfl (Nat.le_of_ble_eq_true rfl) dX5_speaker_33 ⟨Nat.le_of_ble_eq_true rfl, Nat.le_of_ble_eq_true rfl⟩ (fun _ H locs _ hP hD hS => ?_)
      refine W.eq (g2 := F0 m 36 ls [.int (iI (-1000002))]) rfl ?_
      exact kend (((-1000002), T, K, ik, SB, SS, SN, tn, TB, (bmp 1 F)), X, Y, j) hP hS rfl (((if_neg (by omega)).trans (if_pos (by omega)))).symm dX5_speaker_36
  · refine lv_aload_n hx hb dX5_speaker_12 rfl (lv_at hl 0 rfl) ?_
    refine x_ldc hx hb (-1000001) rfl hown (hts (.constant RX5 37 (-1000001)) (by decide +kernel)) dX5_speaker_13 ?_
    refine x_callV (As := [.int (iI (-1000001))]) (rest := []) ⟨hx, hb, hml, hown, hts⟩ (kX5_finds r ik tn j F (-1000001) 0 (by omega) (by omega)) (cwV 1 hts gX5_speaker_X5_finds rfl rfl rfl ykVX5_finds ⟨Nat.le_of_ble_eq_true rfl, Nat.le_of_ble_eq_true rfl⟩) hP hK hD hS 0 4 rfl rfl rfl [0, 5] rfl (by decide) (fun _ => rfl) (fun _ => wRo r ik tn j ++ (wA cI (r 1) 100 T ++ (wA cI (r 2) 100 K ++ (wA cI (r 3) 100 X ++ (wA cI (r 4) 100 Y ++ (wA cI (r 5) 8 (fR (bmp 0 F)) ++ (wA cI (r 6) 120 TB ++ (wA cI (r 7) 4 (bR SB) ++ (wA cI (r 8) 4 SS ++ (wA cI (r 9) 160 SN)))))))))) (fun _ => rfl) rfl hl.1 rfl (Nat.le_of_ble_eq_true rfl) dX5_speaker_15 ⟨Nat.le_of_ble_eq_true rfl, Nat.le_of_ble_eq_true rfl⟩ (fun _ H locs _ hP hD hS => ?_)
    refine W.eq (g2 := F0 m 18 ls [.int (iI (-1000001))]) rfl ?_
    exact kend (((-1000001), T, K, ik, SB, SS, SN, tn, TB, (bmp 0 F)), X, Y, j) hP hS rfl ((if_pos (by omega))).symm dX5_speaker_18
theorem ykSX5_of : yX5_of.cls ≠ "java/lang/invoke/MethodHandle" ∧ yX5_of.cls ≠ "java/lang/invoke/VarHandle" ∧ (parseMethodDescriptor yX5_of.desc).map (fun d => d.parameters.length) = some 2 := by decide +kernel
theorem ykVX5_of : yX5_of.cls = RX5 ∧ yX5_of.cls ≠ "java/lang/invoke/MethodHandle" ∧ yX5_of.cls ≠ "java/lang/invoke/VarHandle" ∧ (parseMethodDescriptor yX5_of.desc).map (fun d => d.parameters.length) = some 2 := ⟨rfl, ykSX5_of⟩
set_option maxHeartbeats 4000000 in
set_option maxRecDepth 100000 in
theorem kX5_of {l : Launch} {D : va_G} {cI cB : ClassId} (r : Nat → Nat) (T K : Tb) (ik : Int) (SB SS SN : Nat → Int) (tn : Int) (TB F : Nat → Int) (X Y : Tb) (j : Nat → Int) (sp wh : Int) (B : Int) (hG : GI B T K ik SB SS SN tn TB F) (hB : B ≤ 40000) (h_sp : rI sp) (h_wh : rI wh) : Ct l yX5_of wsX5_of 3 68 D [(cI, .int), (cB, .byte)] [.ref (r 0), .int (iI sp), .int (iI wh)] (wM cI r (T, K, ik, SB, SS, SN, tn, TB, F) X Y j) (S := (Int × Gs) × Tb × Tb × (Nat → Int)) (fun u => some (.int (iI u.1.1))) (fun u => u.1 = m_of sp wh T K ik SB SS SN tn TB F) (fun u => wM cI r u.1.2 u.2.1 u.2.2.1 u.2.2.2) := by
  refine CtI.of (cc := cX5_of) (maxL := 3) (by decide +kernel) rfl (Nat.le_of_ble_eq_true rfl) ?_
  intro pg e s m args below meth c Q A hx hb hml hts hown hP hK hD hS ls hl kend
  have hown : s.vm.findClass RX5 = some m.cls := hown
  have hl : lv_has ls 3 [(0, .ref (r 0)), (1, .int (iI sp)), (2, .int (iI wh))] := hl
  obtain ⟨hI, hIK, hik, hSB, hSS, hSN, htn, hTB, hF⟩ := id hG
  have hn := Inv_n hI
  have hdy := Inv_d hI
  have hP : va_P D vwCl (wRo r ik tn j ++ (wA cI (r 1) 100 T ++ (wA cI (r 2) 100 K ++ (wA cI (r 3) 100 X ++ (wA cI (r 4) 100 Y ++ (wA cI (r 5) 8 (fR F) ++ (wA cI (r 6) 120 TB ++ (wA cI (r 7) 4 (bR SB) ++ (wA cI (r 8) 4 SS ++ (wA cI (r 9) 160 SN)))))))))) s.heap := hP
  have hD : va_D A (wRo r ik tn j ++ (wA cI (r 1) 100 T ++ (wA cI (r 2) 100 K ++ (wA cI (r 3) 100 X ++ (wA cI (r 4) 100 Y ++ (wA cI (r 5) 8 (fR F) ++ (wA cI (r 6) 120 TB ++ (wA cI (r 7) 4 (bR SB) ++ (wA cI (r 8) 4 SS ++ (wA cI (r 9) 160 SN)))))))))) := hD
  refine lv_aload_n hx hb dX5_of_0 rfl (lv_at hl 0 rfl) ?_
  refine lv_iload_n hx hb dX5_of_1 rfl (lv_at hl 1 rfl) ?_
  refine x_callV (As := [.int (iI sp)]) (rest := []) ⟨hx, hb, hml, hown, hts⟩ (kX5_isOne r ik tn j T sp (by omega) (by omega)) (cwV 1 hts gX5_of_X5_isOne rfl rfl rfl ykVX5_isOne ⟨Nat.le_of_ble_eq_true rfl, Nat.le_of_ble_eq_true rfl⟩) hP hK hD hS 0 4 rfl rfl rfl [0, 1] rfl (by decide) (fun _ => rfl) (fun _ => wRo r ik tn j ++ (wA cI (r 1) 100 T ++ (wA cI (r 2) 100 K ++ (wA cI (r 3) 100 X ++ (wA cI (r 4) 100 Y ++ (wA cI (r 5) 8 (fR F) ++ (wA cI (r 6) 120 TB ++ (wA cI (r 7) 4 (bR SB) ++ (wA cI (r 8) 4 SS ++ (wA cI (r 9) 160 SN)))))))))) (fun _ => rfl) rfl hl.1 rfl (Nat.le_of_ble_eq_true rfl) dX5_of_2 ⟨Nat.le_of_ble_eq_true rfl, Nat.le_of_ble_eq_true rfl⟩ (fun _ H locs _ hP hD hS => ?_)
  refine W.eq (g2 := F0 m 5 ls [.int (iI (b2 (decide (0 ≤ sp ∧ sp < T 0))))]) rfl ?_
  refine x_ifb_eq (tgt := 20) hx hb dX5_of_5 (by decide) (fun c_5 => ?_) (fun c_5 => ?_)
  · refine lv_aload_n hx hb dX5_of_20 rfl (lv_at hl 0 rfl) ?_
    refine x_ldc hx hb (-1000001) rfl hown (hts (.constant RX5 37 (-1000001)) (by decide +kernel)) dX5_of_21 ?_
    refine x_callV (As := [.int (iI (-1000001))]) (rest := []) ⟨hx, hb, hml, hown, hts⟩ (kX5_finds r ik tn j F (-1000001) 0 (by omega) (by omega)) (cwV 1 hts gX5_of_X5_finds rfl rfl rfl ykVX5_finds ⟨Nat.le_of_ble_eq_true rfl, Nat.le_of_ble_eq_true rfl⟩) hP hK hD hS 0 4 rfl rfl rfl [0, 5] rfl (by decide) (fun _ => rfl) (fun _ => wRo r ik tn j ++ (wA cI (r 1) 100 T ++ (wA cI (r 2) 100 K ++ (wA cI (r 3) 100 X ++ (wA cI (r 4) 100 Y ++ (wA cI (r 5) 8 (fR (bmp 0 F)) ++ (wA cI (r 6) 120 TB ++ (wA cI (r 7) 4 (bR SB) ++ (wA cI (r 8) 4 SS ++ (wA cI (r 9) 160 SN)))))))))) (fun _ => rfl) rfl hl.1 rfl (Nat.le_of_ble_eq_true rfl) dX5_of_23 ⟨Nat.le_of_ble_eq_true rfl, Nat.le_of_ble_eq_true rfl⟩ (fun _ H locs _ hP hD hS => ?_)
    refine W.eq (g2 := F0 m 26 ls [.int (iI (-1000001))]) rfl ?_
    exact kend (((-1000001), T, K, ik, SB, SS, SN, tn, TB, (bmp 0 F)), X, Y, j) hP hS rfl (if_neg (by omega)).symm dX5_of_26
  · refine lv_iload_n hx hb dX5_of_8 rfl (lv_at hl 2 rfl) ?_
    refine x_i2l hx hb (by omega) dX5_of_9 ?_
    refine x_lconst hx hb 0 rfl dX5_of_10 ?_
    refine x_ldc2 hx hb 6 rfl hown (hts (.constantLong RX5 62 (6)) (by decide +kernel)) dX5_of_11 ?_
    refine x_callS (As := [.long (lI wh), .long (lI 0), .long (lI 6)]) (rest := []) ⟨hx, hb, hml, hown, hts⟩ (kX5_isIn wh 0 6 (by omega) (by omega) (by omega)) (va_cwS 3 hts gX5_of_X5_isIn rfl rfl rfl ykSX5_isIn ⟨Nat.le_of_ble_eq_true rfl, Nat.le_of_ble_eq_true rfl⟩) hP hK hD hS [] rfl (by decide) (fun _ => rfl) (fun _ => wRo r ik tn j ++ (wA cI (r 1) 100 T ++ (wA cI (r 2) 100 K ++ (wA cI (r 3) 100 X ++ (wA cI (r 4) 100 Y ++ (wA cI (r 5) 8 (fR F) ++ (wA cI (r 6) 120 TB ++ (wA cI (r 7) 4 (bR SB) ++ (wA cI (r 8) 4 SS ++ (wA cI (r 9) 160 SN)))))))))) (fun _ => rfl) rfl hl.1 rfl (Nat.le_of_ble_eq_true rfl) dX5_of_14 ⟨Nat.le_of_ble_eq_true rfl, Nat.le_of_ble_eq_true rfl⟩ (fun _ H locs _ hP hD hS => ?_)
    refine W.eq (g2 := F0 m 17 ls [.int (iI (b2 (decide (0 ≤ wh ∧ wh ≤ 6))))]) rfl ?_
    refine x_ifb_ne (tgt := 27) hx hb dX5_of_17 (by decide) (fun c_17 => ?_) (fun c_17 => ?_)
    · obtain ⟨p0, rfl⟩ : ∃ p0 : Nat, sp = (p0 : Int) := ⟨sp.toNat, by omega⟩
      refine lv_iload_n hx hb dX5_of_27 rfl (lv_at hl 2 rfl) ?_
      rcases x_sw wh 4 6 with c_28 | c_28
      · refine lv_tableOut (tgt := 74) hx hb dX5_of_28 (by rw [iI_to (by omega)]; exact c_28) (by decide) ?_
        obtain ⟨w0, rfl⟩ : ∃ w0 : Nat, wh = (w0 : Int) := ⟨wh.toNat, by omega⟩
        refine lv_aload_n hx hb dX5_of_74 rfl (lv_at hl 0 rfl) ?_
        refine lv_iload_n hx hb dX5_of_75 rfl (lv_at hl 1 rfl) ?_
        refine lv_iload_n hx hb dX5_of_76 rfl (lv_at hl 2 rfl) ?_
        refine x_callV (As := [.int (iI ((p0 : Nat) : Int)), .int (iI ((w0 : Nat) : Int))]) (rest := []) ⟨hx, hb, hml, hown, hts⟩ (kX5_its r ik tn j T p0 w0 (by omega) (by omega)) (cwV 2 hts gX5_of_X5_its rfl rfl rfl ykVX5_its ⟨Nat.le_of_ble_eq_true rfl, Nat.le_of_ble_eq_true rfl⟩) hP hK hD hS 0 4 rfl rfl rfl [0, 1] rfl (by decide) (fun _ => rfl) (fun _ => wRo r ik tn j ++ (wA cI (r 1) 100 T ++ (wA cI (r 2) 100 K ++ (wA cI (r 3) 100 X ++ (wA cI (r 4) 100 Y ++ (wA cI (r 5) 8 (fR F) ++ (wA cI (r 6) 120 TB ++ (wA cI (r 7) 4 (bR SB) ++ (wA cI (r 8) 4 SS ++ (wA cI (r 9) 160 SN)))))))))) (fun _ => rfl) rfl hl.1 rfl (Nat.le_of_ble_eq_true rfl) dX5_of_77 ⟨Nat.le_of_ble_eq_true rfl, Nat.le_of_ble_eq_true rfl⟩ (fun _ H locs _ hP hD hS => ?_)
        refine W.eq (g2 := F0 m 80 ls [.int (iI (T (cx p0 w0)))]) rfl ?_
        exact kend ((T (cx p0 w0), T, K, ik, SB, SS, SN, tn, TB, F), X, Y, j) hP hS rfl (by unfold m_of trF; rw [if_pos (by omega), Int.toNat_natCast]; rcases (show w0 = 0 ∨ w0 = 1 ∨ w0 = 2 ∨ w0 = 3 by omega) with rfl | rfl | rfl | rfl <;> rfl) dX5_of_80
      · obtain ⟨c_28a, c_28b⟩ := c_28
        by_cases e_28 : wh = 4
        · refine lv_tableIn (off := 28) (tgt := 56) hx hb dX5_of_28 (by rw [iI_to (by omega)]; omega) (by rw [iI_to (by omega)]; omega) (by rw [iI_to (by omega), e_28]; rfl) (by decide) ?_
          refine lv_aload_n hx hb dX5_of_56 rfl (lv_at hl 0 rfl) ?_
          refine lv_iload_n hx hb dX5_of_57 rfl (lv_at hl 1 rfl) ?_
          refine x_callV (As := [.int (iI ((p0 : Nat) : Int))]) (rest := []) ⟨hx, hb, hml, hown, hts⟩ (kX5_appetite r ik tn j T p0 B (by omega) (by omega)) (cwV 1 hts gX5_of_X5_appetite rfl rfl rfl ykVX5_appetite ⟨Nat.le_of_ble_eq_true rfl, Nat.le_of_ble_eq_true rfl⟩) hP hK hD hS 0 4 rfl rfl rfl [0, 1] rfl (by decide) (fun _ => rfl) (fun _ => wRo r ik tn j ++ (wA cI (r 1) 100 T ++ (wA cI (r 2) 100 K ++ (wA cI (r 3) 100 X ++ (wA cI (r 4) 100 Y ++ (wA cI (r 5) 8 (fR F) ++ (wA cI (r 6) 120 TB ++ (wA cI (r 7) 4 (bR SB) ++ (wA cI (r 8) 4 SS ++ (wA cI (r 9) 160 SN)))))))))) (fun _ => rfl) rfl hl.1 rfl (Nat.le_of_ble_eq_true rfl) dX5_of_58 ⟨Nat.le_of_ble_eq_true rfl, Nat.le_of_ble_eq_true rfl⟩ (fun _ H locs _ hP hD hS => ?_)
          refine W.eq (g2 := F0 m 61 ls [.int (iI (apF T p0))]) rfl ?_
          exact kend ((apF T p0, T, K, ik, SB, SS, SN, tn, TB, F), X, Y, j) hP hS rfl (by unfold m_of trF; rw [if_pos (by omega), Int.toNat_natCast]; subst e_28; rfl) dX5_of_61
        by_cases e_28 : wh = 5
        · refine lv_tableIn (off := 34) (tgt := 62) hx hb dX5_of_28 (by rw [iI_to (by omega)]; omega) (by rw [iI_to (by omega)]; omega) (by rw [iI_to (by omega), e_28]; rfl) (by decide) ?_
          refine lv_aload_n hx hb dX5_of_62 rfl (lv_at hl 0 rfl) ?_
          refine lv_iload_n hx hb dX5_of_63 rfl (lv_at hl 1 rfl) ?_
          refine x_callV (As := [.int (iI ((p0 : Nat) : Int))]) (rest := []) ⟨hx, hb, hml, hown, hts⟩ (kX5_left r ik tn j T p0 (by omega)) (cwV 1 hts gX5_of_X5_left rfl rfl rfl ykVX5_left ⟨Nat.le_of_ble_eq_true rfl, Nat.le_of_ble_eq_true rfl⟩) hP hK hD hS 0 4 rfl rfl rfl [0, 1] rfl (by decide) (fun _ => rfl) (fun _ => wRo r ik tn j ++ (wA cI (r 1) 100 T ++ (wA cI (r 2) 100 K ++ (wA cI (r 3) 100 X ++ (wA cI (r 4) 100 Y ++ (wA cI (r 5) 8 (fR F) ++ (wA cI (r 6) 120 TB ++ (wA cI (r 7) 4 (bR SB) ++ (wA cI (r 8) 4 SS ++ (wA cI (r 9) 160 SN)))))))))) (fun _ => rfl) rfl hl.1 rfl (Nat.le_of_ble_eq_true rfl) dX5_of_64 ⟨Nat.le_of_ble_eq_true rfl, Nat.le_of_ble_eq_true rfl⟩ (fun _ H locs _ hP hD hS => ?_)
          refine W.eq (g2 := F0 m 67 ls [.int (iI (lfF T p0))]) rfl ?_
          exact kend ((lfF T p0, T, K, ik, SB, SS, SN, tn, TB, F), X, Y, j) hP hS rfl (by unfold m_of trF; rw [if_pos (by omega), Int.toNat_natCast]; subst e_28; rfl) dX5_of_67
        have e_28 : wh = 6 := by omega
        refine lv_tableIn (off := 40) (tgt := 68) hx hb dX5_of_28 (by rw [iI_to (by omega)]; omega) (by rw [iI_to (by omega)]; omega) (by rw [iI_to (by omega), e_28]; rfl) (by decide) ?_
        refine lv_aload_n hx hb dX5_of_68 rfl (lv_at hl 0 rfl) ?_
        refine lv_iload_n hx hb dX5_of_69 rfl (lv_at hl 1 rfl) ?_
        refine x_callV (As := [.int (iI ((p0 : Nat) : Int))]) (rest := []) ⟨hx, hb, hml, hown, hts⟩ (kX5_tasted r ik tn j T p0 (by omega) (fun t ht => Inv_pl hI (by omega) ht)) (cwV 1 hts gX5_of_X5_tasted rfl rfl rfl ykVX5_tasted ⟨Nat.le_of_ble_eq_true rfl, Nat.le_of_ble_eq_true rfl⟩) hP hK hD hS 0 4 rfl rfl rfl [0, 1] rfl (by decide) (fun _ => rfl) (fun _ => wRo r ik tn j ++ (wA cI (r 1) 100 T ++ (wA cI (r 2) 100 K ++ (wA cI (r 3) 100 X ++ (wA cI (r 4) 100 Y ++ (wA cI (r 5) 8 (fR F) ++ (wA cI (r 6) 120 TB ++ (wA cI (r 7) 4 (bR SB) ++ (wA cI (r 8) 4 SS ++ (wA cI (r 9) 160 SN)))))))))) (fun _ => rfl) rfl hl.1 rfl (Nat.le_of_ble_eq_true rfl) dX5_of_70 ⟨Nat.le_of_ble_eq_true rfl, Nat.le_of_ble_eq_true rfl⟩ (fun _ H locs _ hP hD hS => ?_)
        refine W.eq (g2 := F0 m 73 ls [.int (iI (tsF T p0))]) rfl ?_
        exact kend ((tsF T p0, T, K, ik, SB, SS, SN, tn, TB, F), X, Y, j) hP hS rfl (by unfold m_of trF; rw [if_pos (by omega), Int.toNat_natCast]; subst e_28; rfl) dX5_of_73
    · refine lv_aload_n hx hb dX5_of_20 rfl (lv_at hl 0 rfl) ?_
      refine x_ldc hx hb (-1000001) rfl hown (hts (.constant RX5 37 (-1000001)) (by decide +kernel)) dX5_of_21 ?_
      refine x_callV (As := [.int (iI (-1000001))]) (rest := []) ⟨hx, hb, hml, hown, hts⟩ (kX5_finds r ik tn j F (-1000001) 0 (by omega) (by omega)) (cwV 1 hts gX5_of_X5_finds rfl rfl rfl ykVX5_finds ⟨Nat.le_of_ble_eq_true rfl, Nat.le_of_ble_eq_true rfl⟩) hP hK hD hS 0 4 rfl rfl rfl [0, 5] rfl (by decide) (fun _ => rfl) (fun _ => wRo r ik tn j ++ (wA cI (r 1) 100 T ++ (wA cI (r 2) 100 K ++ (wA cI (r 3) 100 X ++ (wA cI (r 4) 100 Y ++ (wA cI (r 5) 8 (fR (bmp 0 F)) ++ (wA cI (r 6) 120 TB ++ (wA cI (r 7) 4 (bR SB) ++ (wA cI (r 8) 4 SS ++ (wA cI (r 9) 160 SN)))))))))) (fun _ => rfl) rfl hl.1 rfl (Nat.le_of_ble_eq_true rfl) dX5_of_23 ⟨Nat.le_of_ble_eq_true rfl, Nat.le_of_ble_eq_true rfl⟩ (fun _ H locs _ hP hD hS => ?_)
      refine W.eq (g2 := F0 m 26 ls [.int (iI (-1000001))]) rfl ?_
      exact kend (((-1000001), T, K, ik, SB, SS, SN, tn, TB, (bmp 0 F)), X, Y, j) hP hS rfl (if_neg (by omega)).symm dX5_of_26
theorem ykSX5_change : yX5_change.cls ≠ "java/lang/invoke/MethodHandle" ∧ yX5_change.cls ≠ "java/lang/invoke/VarHandle" ∧ (parseMethodDescriptor yX5_change.desc).map (fun d => d.parameters.length) = some 3 := by decide +kernel
theorem ykVX5_change : yX5_change.cls = RX5 ∧ yX5_change.cls ≠ "java/lang/invoke/MethodHandle" ∧ yX5_change.cls ≠ "java/lang/invoke/VarHandle" ∧ (parseMethodDescriptor yX5_change.desc).map (fun d => d.parameters.length) = some 3 := ⟨rfl, ykSX5_change⟩
set_option maxHeartbeats 4000000 in
set_option maxRecDepth 100000 in
theorem kX5_change {l : Launch} {D : va_G} {cI cB : ClassId} (r : Nat → Nat) (T K : Tb) (ik : Int) (SB SS SN : Nat → Int) (tn : Int) (TB F : Nat → Int) (X Y : Tb) (j : Nat → Int) (sp wh v : Int) (B : Int) (hG : GI B T K ik SB SS SN tn TB F) (hB : B ≤ 40000) (h_sp : rI sp) (h_wh : rI wh) (h_v : rI v) : Ct l yX5_change wsX5_change 2 48 D [(cI, .int), (cB, .byte)] [.ref (r 0), .int (iI sp), .int (iI wh), .int (iI v)] (wM cI r (T, K, ik, SB, SS, SN, tn, TB, F) X Y j) (S := (Int × Gs) × Tb × Tb × (Nat → Int)) (fun u => some (.int (iI u.1.1))) (fun u => u.1 = m_change sp wh v T K ik SB SS SN tn TB F) (fun u => wM cI r u.1.2 u.2.1 u.2.2.1 u.2.2.2) := by
  refine CtI.of (cc := cX5_change) (maxL := 4) (by decide +kernel) rfl (Nat.le_of_ble_eq_true rfl) ?_
  intro pg e s m args below meth c Q A hx hb hml hts hown hP hK hD hS ls hl kend
  have hown : s.vm.findClass RX5 = some m.cls := hown
  have hl : lv_has ls 4 [(0, .ref (r 0)), (1, .int (iI sp)), (2, .int (iI wh)), (3, .int (iI v))] := hl
  obtain ⟨hI, hIK, hik, hSB, hSS, hSN, htn, hTB, hF⟩ := id hG
  have hn := Inv_n hI
  have hdy := Inv_d hI
  have hP : va_P D vwCl (wRo r ik tn j ++ (wA cI (r 1) 100 T ++ (wA cI (r 2) 100 K ++ (wA cI (r 3) 100 X ++ (wA cI (r 4) 100 Y ++ (wA cI (r 5) 8 (fR F) ++ (wA cI (r 6) 120 TB ++ (wA cI (r 7) 4 (bR SB) ++ (wA cI (r 8) 4 SS ++ (wA cI (r 9) 160 SN)))))))))) s.heap := hP
  have hD : va_D A (wRo r ik tn j ++ (wA cI (r 1) 100 T ++ (wA cI (r 2) 100 K ++ (wA cI (r 3) 100 X ++ (wA cI (r 4) 100 Y ++ (wA cI (r 5) 8 (fR F) ++ (wA cI (r 6) 120 TB ++ (wA cI (r 7) 4 (bR SB) ++ (wA cI (r 8) 4 SS ++ (wA cI (r 9) 160 SN)))))))))) := hD
  refine lv_aload_n hx hb dX5_change_0 rfl (lv_at hl 0 rfl) ?_
  refine lv_iload_n hx hb dX5_change_1 rfl (lv_at hl 1 rfl) ?_
  refine x_callV (As := [.int (iI sp)]) (rest := []) ⟨hx, hb, hml, hown, hts⟩ (kX5_isOne r ik tn j T sp (by omega) (by omega)) (cwV 1 hts gX5_change_X5_isOne rfl rfl rfl ykVX5_isOne ⟨Nat.le_of_ble_eq_true rfl, Nat.le_of_ble_eq_true rfl⟩) hP hK hD hS 0 4 rfl rfl rfl [0, 1] rfl (by decide) (fun _ => rfl) (fun _ => wRo r ik tn j ++ (wA cI (r 1) 100 T ++ (wA cI (r 2) 100 K ++ (wA cI (r 3) 100 X ++ (wA cI (r 4) 100 Y ++ (wA cI (r 5) 8 (fR F) ++ (wA cI (r 6) 120 TB ++ (wA cI (r 7) 4 (bR SB) ++ (wA cI (r 8) 4 SS ++ (wA cI (r 9) 160 SN)))))))))) (fun _ => rfl) rfl hl.1 rfl (Nat.le_of_ble_eq_true rfl) dX5_change_2 ⟨Nat.le_of_ble_eq_true rfl, Nat.le_of_ble_eq_true rfl⟩ (fun _ H locs _ hP hD hS => ?_)
  refine W.eq (g2 := F0 m 5 ls [.int (iI (b2 (decide (0 ≤ sp ∧ sp < T 0))))]) rfl ?_
  refine x_ifb_eq (tgt := 31) hx hb dX5_change_5 (by decide) (fun c_5 => ?_) (fun c_5 => ?_)
  · refine lv_aload_n hx hb dX5_change_31 rfl (lv_at hl 0 rfl) ?_
    refine x_ldc hx hb (-1000001) rfl hown (hts (.constant RX5 37 (-1000001)) (by decide +kernel)) dX5_change_32 ?_
    refine x_callV (As := [.int (iI (-1000001))]) (rest := []) ⟨hx, hb, hml, hown, hts⟩ (kX5_finds r ik tn j F (-1000001) 0 (by omega) (by omega)) (cwV 1 hts gX5_change_X5_finds rfl rfl rfl ykVX5_finds ⟨Nat.le_of_ble_eq_true rfl, Nat.le_of_ble_eq_true rfl⟩) hP hK hD hS 0 4 rfl rfl rfl [0, 5] rfl (by decide) (fun _ => rfl) (fun _ => wRo r ik tn j ++ (wA cI (r 1) 100 T ++ (wA cI (r 2) 100 K ++ (wA cI (r 3) 100 X ++ (wA cI (r 4) 100 Y ++ (wA cI (r 5) 8 (fR (bmp 0 F)) ++ (wA cI (r 6) 120 TB ++ (wA cI (r 7) 4 (bR SB) ++ (wA cI (r 8) 4 SS ++ (wA cI (r 9) 160 SN)))))))))) (fun _ => rfl) rfl hl.1 rfl (Nat.le_of_ble_eq_true rfl) dX5_change_34 ⟨Nat.le_of_ble_eq_true rfl, Nat.le_of_ble_eq_true rfl⟩ (fun _ H locs _ hP hD hS => ?_)
    refine W.eq (g2 := F0 m 37 ls [.int (iI (-1000001))]) rfl ?_
    exact kend (((-1000001), T, K, ik, SB, SS, SN, tn, TB, (bmp 0 F)), X, Y, j) hP hS rfl (if_neg (fun q9 => by first | omega | exact c_15 q9.2)).symm dX5_change_37
  · refine lv_aload_n hx hb dX5_change_8 rfl (lv_at hl 0 rfl) ?_
    refine lv_iload_n hx hb dX5_change_9 rfl (lv_at hl 1 rfl) ?_
    refine lv_iload_n hx hb dX5_change_10 rfl (lv_at hl 2 rfl) ?_
    refine lv_iload_n hx hb dX5_change_11 rfl (lv_at hl 3 rfl) ?_
    refine x_callV (As := [.int (iI sp), .int (iI wh), .int (iI v)]) (rest := []) ⟨hx, hb, hml, hown, hts⟩ (kX5_may r ik tn j T sp wh v (by omega) (by omega) (by omega) (by omega)) (cwV 3 hts gX5_change_X5_may rfl rfl rfl ykVX5_may ⟨Nat.le_of_ble_eq_true rfl, Nat.le_of_ble_eq_true rfl⟩) hP hK hD hS 0 4 rfl rfl rfl [0, 1] rfl (by decide) (fun _ => rfl) (fun _ => wRo r ik tn j ++ (wA cI (r 1) 100 T ++ (wA cI (r 2) 100 K ++ (wA cI (r 3) 100 X ++ (wA cI (r 4) 100 Y ++ (wA cI (r 5) 8 (fR F) ++ (wA cI (r 6) 120 TB ++ (wA cI (r 7) 4 (bR SB) ++ (wA cI (r 8) 4 SS ++ (wA cI (r 9) 160 SN)))))))))) (fun _ => rfl) rfl hl.1 rfl (Nat.le_of_ble_eq_true rfl) dX5_change_12 ⟨Nat.le_of_ble_eq_true rfl, Nat.le_of_ble_eq_true rfl⟩ (fun _ H locs _ hP hD hS => ?_)
    refine W.eq (g2 := F0 m 15 ls [.int (iI (b2 (decide (mayB T sp wh v = true))))]) rfl ?_
    refine x_ifb_eq (tgt := 31) hx hb dX5_change_15 (by decide) (fun c_15 => ?_) (fun c_15 => ?_)
    · refine lv_aload_n hx hb dX5_change_31 rfl (lv_at hl 0 rfl) ?_
      refine x_ldc hx hb (-1000001) rfl hown (hts (.constant RX5 37 (-1000001)) (by decide +kernel)) dX5_change_32 ?_
      refine x_callV (As := [.int (iI (-1000001))]) (rest := []) ⟨hx, hb, hml, hown, hts⟩ (kX5_finds r ik tn j F (-1000001) 0 (by omega) (by omega)) (cwV 1 hts gX5_change_X5_finds rfl rfl rfl ykVX5_finds ⟨Nat.le_of_ble_eq_true rfl, Nat.le_of_ble_eq_true rfl⟩) hP hK hD hS 0 4 rfl rfl rfl [0, 5] rfl (by decide) (fun _ => rfl) (fun _ => wRo r ik tn j ++ (wA cI (r 1) 100 T ++ (wA cI (r 2) 100 K ++ (wA cI (r 3) 100 X ++ (wA cI (r 4) 100 Y ++ (wA cI (r 5) 8 (fR (bmp 0 F)) ++ (wA cI (r 6) 120 TB ++ (wA cI (r 7) 4 (bR SB) ++ (wA cI (r 8) 4 SS ++ (wA cI (r 9) 160 SN)))))))))) (fun _ => rfl) rfl hl.1 rfl (Nat.le_of_ble_eq_true rfl) dX5_change_34 ⟨Nat.le_of_ble_eq_true rfl, Nat.le_of_ble_eq_true rfl⟩ (fun _ H locs _ hP hD hS => ?_)
      refine W.eq (g2 := F0 m 37 ls [.int (iI (-1000001))]) rfl ?_
      exact kend (((-1000001), T, K, ik, SB, SS, SN, tn, TB, (bmp 0 F)), X, Y, j) hP hS rfl (if_neg (fun q9 => by first | omega | exact c_15 q9.2)).symm dX5_change_37
    · have hw9 : 0 ≤ wh ∧ wh ≤ 3 := by have q9 := (mayB_i _ _ _ _).mp c_15; omega
      obtain ⟨p0, rfl⟩ : ∃ p0 : Nat, sp = (p0 : Int) := ⟨sp.toNat, by omega⟩
      obtain ⟨w0, rfl⟩ : ∃ w0 : Nat, wh = (w0 : Int) := ⟨wh.toNat, by omega⟩
      refine lv_aload_n hx hb dX5_change_18 rfl (lv_at hl 0 rfl) ?_
      refine lv_iload_n hx hb dX5_change_19 rfl (lv_at hl 1 rfl) ?_
      refine lv_iload_n hx hb dX5_change_20 rfl (lv_at hl 2 rfl) ?_
      refine x_callS (As := [.int (iI ((p0 : Nat) : Int)), .int (iI ((w0 : Nat) : Int))]) (rest := [.ref (r 0)]) ⟨hx, hb, hml, hown, hts⟩ (kX5_at p0 w0 ) (va_cwS 2 hts gX5_change_X5_at rfl rfl rfl ykSX5_at ⟨Nat.le_of_ble_eq_true rfl, Nat.le_of_ble_eq_true rfl⟩) hP hK hD hS [] rfl (by decide) (fun _ => rfl) (fun _ => wRo r ik tn j ++ (wA cI (r 1) 100 T ++ (wA cI (r 2) 100 K ++ (wA cI (r 3) 100 X ++ (wA cI (r 4) 100 Y ++ (wA cI (r 5) 8 (fR F) ++ (wA cI (r 6) 120 TB ++ (wA cI (r 7) 4 (bR SB) ++ (wA cI (r 8) 4 SS ++ (wA cI (r 9) 160 SN)))))))))) (fun _ => rfl) rfl hl.1 rfl (Nat.le_of_ble_eq_true rfl) dX5_change_21 ⟨Nat.le_of_ble_eq_true rfl, Nat.le_of_ble_eq_true rfl⟩ (fun _ H locs _ hP hD hS => ?_)
      refine W.eq (g2 := F0 m 24 ls [.int (iI ((cx p0 w0 : Nat) : Int)), .ref (r 0)]) rfl ?_
      refine lv_iload_n hx hb dX5_change_24 rfl (lv_at hl 3 rfl) ?_
      refine x_callV (As := [.int (iI ((cx p0 w0 : Nat) : Int)), .int (iI v)]) (rest := []) ⟨hx, hb, hml, hown, hts⟩ (kX5_becomes r ik tn j T (cx p0 w0) v (cx_lt1 (by omega) (by omega))) (cwV 2 hts gX5_change_X5_becomes rfl rfl rfl ykVX5_becomes ⟨Nat.le_of_ble_eq_true rfl, Nat.le_of_ble_eq_true rfl⟩) hP hK hD hS 0 4 rfl rfl rfl [0, 1] rfl (by decide) (fun _ => rfl) (fun _ => wRo r ik tn j ++ (wA cI (r 1) 100 (va_up T (cx p0 w0) v) ++ (wA cI (r 2) 100 K ++ (wA cI (r 3) 100 X ++ (wA cI (r 4) 100 Y ++ (wA cI (r 5) 8 (fR F) ++ (wA cI (r 6) 120 TB ++ (wA cI (r 7) 4 (bR SB) ++ (wA cI (r 8) 4 SS ++ (wA cI (r 9) 160 SN)))))))))) (fun _ => rfl) rfl hl.1 rfl (Nat.le_of_ble_eq_true rfl) dX5_change_25 ⟨Nat.le_of_ble_eq_true rfl, Nat.le_of_ble_eq_true rfl⟩ (fun _ H locs _ hP hD hS => ?_)
      refine W.eq (g2 := F0 m 28 ls [.int (iI (T (cx p0 w0)))]) rfl ?_
      refine lv_goto (tgt := 37) hx hb dX5_change_28 (by decide) ?_
      exact kend ((T (cx p0 w0), (va_up T (cx p0 w0) v), K, ik, SB, SS, SN, tn, TB, F), X, Y, j) hP hS rfl (if_pos ⟨by omega, c_15⟩).symm dX5_change_37
theorem ykSX5_serve : yX5_serve.cls ≠ "java/lang/invoke/MethodHandle" ∧ yX5_serve.cls ≠ "java/lang/invoke/VarHandle" ∧ (parseMethodDescriptor yX5_serve.desc).map (fun d => d.parameters.length) = some 3 := by decide +kernel
theorem ykVX5_serve : yX5_serve.cls = RX5 ∧ yX5_serve.cls ≠ "java/lang/invoke/MethodHandle" ∧ yX5_serve.cls ≠ "java/lang/invoke/VarHandle" ∧ (parseMethodDescriptor yX5_serve.desc).map (fun d => d.parameters.length) = some 3 := ⟨rfl, ykSX5_serve⟩
set_option maxHeartbeats 4000000 in
set_option maxRecDepth 100000 in
theorem kX5_serve {l : Launch} {D : va_G} {cI cB : ClassId} (r : Nat → Nat) (T K : Tb) (ik : Int) (SB SS SN : Nat → Int) (tn : Int) (TB F : Nat → Int) (X Y : Tb) (j : Nat → Int) (sp t v : Int) (B : Int) (hG : GI B T K ik SB SS SN tn TB F) (hB : B ≤ 40000) (h_sp : rI sp) (h_t : rI t) (h_v : rI v) : Ct l yX5_serve wsX5_serve 1 25 D [(cI, .int), (cB, .byte)] [.ref (r 0), .int (iI sp), .int (iI t), .int (iI v)] (wM cI r (T, K, ik, SB, SS, SN, tn, TB, F) X Y j) (S := (Int × Gs) × Tb × Tb × (Nat → Int)) (fun u => some (.int (iI u.1.1))) (fun u => u.1 = m_serve sp t v T K ik SB SS SN tn TB F) (fun u => wM cI r u.1.2 u.2.1 u.2.2.1 u.2.2.2) := by
  refine CtI.of (cc := cX5_serve) (maxL := 4) (by decide +kernel) rfl (Nat.le_of_ble_eq_true rfl) ?_
  intro pg e s m args below meth c Q A hx hb hml hts hown hP hK hD hS ls hl kend
  have hown : s.vm.findClass RX5 = some m.cls := hown
  have hl : lv_has ls 4 [(0, .ref (r 0)), (1, .int (iI sp)), (2, .int (iI t)), (3, .int (iI v))] := hl
  obtain ⟨hI, hIK, hik, hSB, hSS, hSN, htn, hTB, hF⟩ := id hG
  have hn := Inv_n hI
  have hdy := Inv_d hI
  have hP : va_P D vwCl (wRo r ik tn j ++ (wA cI (r 1) 100 T ++ (wA cI (r 2) 100 K ++ (wA cI (r 3) 100 X ++ (wA cI (r 4) 100 Y ++ (wA cI (r 5) 8 (fR F) ++ (wA cI (r 6) 120 TB ++ (wA cI (r 7) 4 (bR SB) ++ (wA cI (r 8) 4 SS ++ (wA cI (r 9) 160 SN)))))))))) s.heap := hP
  have hD : va_D A (wRo r ik tn j ++ (wA cI (r 1) 100 T ++ (wA cI (r 2) 100 K ++ (wA cI (r 3) 100 X ++ (wA cI (r 4) 100 Y ++ (wA cI (r 5) 8 (fR F) ++ (wA cI (r 6) 120 TB ++ (wA cI (r 7) 4 (bR SB) ++ (wA cI (r 8) 4 SS ++ (wA cI (r 9) 160 SN)))))))))) := hD
  refine lv_aload_n hx hb dX5_serve_0 rfl (lv_at hl 0 rfl) ?_
  refine lv_iload_n hx hb dX5_serve_1 rfl (lv_at hl 1 rfl) ?_
  refine x_callV (As := [.int (iI sp)]) (rest := []) ⟨hx, hb, hml, hown, hts⟩ (kX5_isOne r ik tn j T sp (by omega) (by omega)) (cwV 1 hts gX5_serve_X5_isOne rfl rfl rfl ykVX5_isOne ⟨Nat.le_of_ble_eq_true rfl, Nat.le_of_ble_eq_true rfl⟩) hP hK hD hS 0 4 rfl rfl rfl [0, 1] rfl (by decide) (fun _ => rfl) (fun _ => wRo r ik tn j ++ (wA cI (r 1) 100 T ++ (wA cI (r 2) 100 K ++ (wA cI (r 3) 100 X ++ (wA cI (r 4) 100 Y ++ (wA cI (r 5) 8 (fR F) ++ (wA cI (r 6) 120 TB ++ (wA cI (r 7) 4 (bR SB) ++ (wA cI (r 8) 4 SS ++ (wA cI (r 9) 160 SN)))))))))) (fun _ => rfl) rfl hl.1 rfl (Nat.le_of_ble_eq_true rfl) dX5_serve_2 ⟨Nat.le_of_ble_eq_true rfl, Nat.le_of_ble_eq_true rfl⟩ (fun _ H locs _ hP hD hS => ?_)
  refine W.eq (g2 := F0 m 5 ls [.int (iI (b2 (decide (0 ≤ sp ∧ sp < T 0))))]) rfl ?_
  refine x_ifb_eq (tgt := 42) hx hb dX5_serve_5 (by decide) (fun c_5 => ?_) (fun c_5 => ?_)
  · refine lv_aload_n hx hb dX5_serve_42 rfl (lv_at hl 0 rfl) ?_
    refine x_ldc hx hb (-1000001) rfl hown (hts (.constant RX5 37 (-1000001)) (by decide +kernel)) dX5_serve_43 ?_
    refine x_callV (As := [.int (iI (-1000001))]) (rest := []) ⟨hx, hb, hml, hown, hts⟩ (kX5_finds r ik tn j F (-1000001) 0 (by omega) (by omega)) (cwV 1 hts gX5_serve_X5_finds rfl rfl rfl ykVX5_finds ⟨Nat.le_of_ble_eq_true rfl, Nat.le_of_ble_eq_true rfl⟩) hP hK hD hS 0 4 rfl rfl rfl [0, 5] rfl (by decide) (fun _ => rfl) (fun _ => wRo r ik tn j ++ (wA cI (r 1) 100 T ++ (wA cI (r 2) 100 K ++ (wA cI (r 3) 100 X ++ (wA cI (r 4) 100 Y ++ (wA cI (r 5) 8 (fR (bmp 0 F)) ++ (wA cI (r 6) 120 TB ++ (wA cI (r 7) 4 (bR SB) ++ (wA cI (r 8) 4 SS ++ (wA cI (r 9) 160 SN)))))))))) (fun _ => rfl) rfl hl.1 rfl (Nat.le_of_ble_eq_true rfl) dX5_serve_45 ⟨Nat.le_of_ble_eq_true rfl, Nat.le_of_ble_eq_true rfl⟩ (fun _ H locs _ hP hD hS => ?_)
    refine W.eq (g2 := F0 m 48 ls [.int (iI (-1000001))]) rfl ?_
    exact kend (((-1000001), T, K, ik, SB, SS, SN, tn, TB, (bmp 0 F)), X, Y, j) hP hS rfl (if_neg (by omega)).symm dX5_serve_48
  · refine lv_iload_n hx hb dX5_serve_8 rfl (lv_at hl 2 rfl) ?_
    refine x_callS (As := [.int (iI t)]) (rest := []) ⟨hx, hb, hml, hown, hts⟩ (kX5_isTaste t (by omega)) (va_cwS 1 hts gX5_serve_X5_isTaste rfl rfl rfl ykSX5_isTaste ⟨Nat.le_of_ble_eq_true rfl, Nat.le_of_ble_eq_true rfl⟩) hP hK hD hS [] rfl (by decide) (fun _ => rfl) (fun _ => wRo r ik tn j ++ (wA cI (r 1) 100 T ++ (wA cI (r 2) 100 K ++ (wA cI (r 3) 100 X ++ (wA cI (r 4) 100 Y ++ (wA cI (r 5) 8 (fR F) ++ (wA cI (r 6) 120 TB ++ (wA cI (r 7) 4 (bR SB) ++ (wA cI (r 8) 4 SS ++ (wA cI (r 9) 160 SN)))))))))) (fun _ => rfl) rfl hl.1 rfl (Nat.le_of_ble_eq_true rfl) dX5_serve_9 ⟨Nat.le_of_ble_eq_true rfl, Nat.le_of_ble_eq_true rfl⟩ (fun _ H locs _ hP hD hS => ?_)
    refine W.eq (g2 := F0 m 12 ls [.int (iI (b2 (decide (0 ≤ t ∧ t < 6))))]) rfl ?_
    refine x_ifb_eq (tgt := 42) hx hb dX5_serve_12 (by decide) (fun c_12 => ?_) (fun c_12 => ?_)
    · refine lv_aload_n hx hb dX5_serve_42 rfl (lv_at hl 0 rfl) ?_
      refine x_ldc hx hb (-1000001) rfl hown (hts (.constant RX5 37 (-1000001)) (by decide +kernel)) dX5_serve_43 ?_
      refine x_callV (As := [.int (iI (-1000001))]) (rest := []) ⟨hx, hb, hml, hown, hts⟩ (kX5_finds r ik tn j F (-1000001) 0 (by omega) (by omega)) (cwV 1 hts gX5_serve_X5_finds rfl rfl rfl ykVX5_finds ⟨Nat.le_of_ble_eq_true rfl, Nat.le_of_ble_eq_true rfl⟩) hP hK hD hS 0 4 rfl rfl rfl [0, 5] rfl (by decide) (fun _ => rfl) (fun _ => wRo r ik tn j ++ (wA cI (r 1) 100 T ++ (wA cI (r 2) 100 K ++ (wA cI (r 3) 100 X ++ (wA cI (r 4) 100 Y ++ (wA cI (r 5) 8 (fR (bmp 0 F)) ++ (wA cI (r 6) 120 TB ++ (wA cI (r 7) 4 (bR SB) ++ (wA cI (r 8) 4 SS ++ (wA cI (r 9) 160 SN)))))))))) (fun _ => rfl) rfl hl.1 rfl (Nat.le_of_ble_eq_true rfl) dX5_serve_45 ⟨Nat.le_of_ble_eq_true rfl, Nat.le_of_ble_eq_true rfl⟩ (fun _ H locs _ hP hD hS => ?_)
      refine W.eq (g2 := F0 m 48 ls [.int (iI (-1000001))]) rfl ?_
      exact kend (((-1000001), T, K, ik, SB, SS, SN, tn, TB, (bmp 0 F)), X, Y, j) hP hS rfl (if_neg (by omega)).symm dX5_serve_48
    · refine lv_iload_n hx hb dX5_serve_15 rfl (lv_at hl 3 rfl) ?_
      refine x_i2l hx hb (by omega) dX5_serve_16 ?_
      refine x_lconst hx hb 0 rfl dX5_serve_17 ?_
      refine x_ldc2 hx hb 999 rfl hown (hts (.constantLong RX5 95 (999)) (by decide +kernel)) dX5_serve_18 ?_
      refine x_callS (As := [.long (lI v), .long (lI 0), .long (lI 999)]) (rest := []) ⟨hx, hb, hml, hown, hts⟩ (kX5_isIn v 0 999 (by omega) (by omega) (by omega)) (va_cwS 3 hts gX5_serve_X5_isIn rfl rfl rfl ykSX5_isIn ⟨Nat.le_of_ble_eq_true rfl, Nat.le_of_ble_eq_true rfl⟩) hP hK hD hS [] rfl (by decide) (fun _ => rfl) (fun _ => wRo r ik tn j ++ (wA cI (r 1) 100 T ++ (wA cI (r 2) 100 K ++ (wA cI (r 3) 100 X ++ (wA cI (r 4) 100 Y ++ (wA cI (r 5) 8 (fR F) ++ (wA cI (r 6) 120 TB ++ (wA cI (r 7) 4 (bR SB) ++ (wA cI (r 8) 4 SS ++ (wA cI (r 9) 160 SN)))))))))) (fun _ => rfl) rfl hl.1 rfl (Nat.le_of_ble_eq_true rfl) dX5_serve_21 ⟨Nat.le_of_ble_eq_true rfl, Nat.le_of_ble_eq_true rfl⟩ (fun _ H locs _ hP hD hS => ?_)
      refine W.eq (g2 := F0 m 24 ls [.int (iI (b2 (decide (0 ≤ v ∧ v ≤ 999))))]) rfl ?_
      refine x_ifb_eq (tgt := 42) hx hb dX5_serve_24 (by decide) (fun c_24 => ?_) (fun c_24 => ?_)
      · refine lv_aload_n hx hb dX5_serve_42 rfl (lv_at hl 0 rfl) ?_
        refine x_ldc hx hb (-1000001) rfl hown (hts (.constant RX5 37 (-1000001)) (by decide +kernel)) dX5_serve_43 ?_
        refine x_callV (As := [.int (iI (-1000001))]) (rest := []) ⟨hx, hb, hml, hown, hts⟩ (kX5_finds r ik tn j F (-1000001) 0 (by omega) (by omega)) (cwV 1 hts gX5_serve_X5_finds rfl rfl rfl ykVX5_finds ⟨Nat.le_of_ble_eq_true rfl, Nat.le_of_ble_eq_true rfl⟩) hP hK hD hS 0 4 rfl rfl rfl [0, 5] rfl (by decide) (fun _ => rfl) (fun _ => wRo r ik tn j ++ (wA cI (r 1) 100 T ++ (wA cI (r 2) 100 K ++ (wA cI (r 3) 100 X ++ (wA cI (r 4) 100 Y ++ (wA cI (r 5) 8 (fR (bmp 0 F)) ++ (wA cI (r 6) 120 TB ++ (wA cI (r 7) 4 (bR SB) ++ (wA cI (r 8) 4 SS ++ (wA cI (r 9) 160 SN)))))))))) (fun _ => rfl) rfl hl.1 rfl (Nat.le_of_ble_eq_true rfl) dX5_serve_45 ⟨Nat.le_of_ble_eq_true rfl, Nat.le_of_ble_eq_true rfl⟩ (fun _ H locs _ hP hD hS => ?_)
        refine W.eq (g2 := F0 m 48 ls [.int (iI (-1000001))]) rfl ?_
        exact kend (((-1000001), T, K, ik, SB, SS, SN, tn, TB, (bmp 0 F)), X, Y, j) hP hS rfl (if_neg (by omega)).symm dX5_serve_48
      · obtain ⟨p0, rfl⟩ : ∃ p0 : Nat, sp = (p0 : Int) := ⟨sp.toNat, by omega⟩
        obtain ⟨t0, rfl⟩ : ∃ t0 : Nat, t = (t0 : Int) := ⟨t.toNat, by omega⟩
        refine lv_aload_n hx hb dX5_serve_27 rfl (lv_at hl 0 rfl) ?_
        refine lv_iload_n hx hb dX5_serve_28 rfl (lv_at hl 1 rfl) ?_
        refine x_iconst hx hb dX5_serve_29 ?_
        refine lv_iload_n hx hb dX5_serve_30 rfl (lv_at hl 2 rfl) ?_
        refine x_iadd hx hb dX5_serve_31 ?_
        refine x_topi ((4 + t0 : Nat) : Int) (by omega) ?_
        refine x_callS (As := [.int (iI ((p0 : Nat) : Int)), .int (iI ((4 + t0 : Nat) : Int))]) (rest := [.ref (r 0)]) ⟨hx, hb, hml, hown, hts⟩ (kX5_at p0 (4 + t0) ) (va_cwS 2 hts gX5_serve_X5_at rfl rfl rfl ykSX5_at ⟨Nat.le_of_ble_eq_true rfl, Nat.le_of_ble_eq_true rfl⟩) hP hK hD hS [] rfl (by decide) (fun _ => rfl) (fun _ => wRo r ik tn j ++ (wA cI (r 1) 100 T ++ (wA cI (r 2) 100 K ++ (wA cI (r 3) 100 X ++ (wA cI (r 4) 100 Y ++ (wA cI (r 5) 8 (fR F) ++ (wA cI (r 6) 120 TB ++ (wA cI (r 7) 4 (bR SB) ++ (wA cI (r 8) 4 SS ++ (wA cI (r 9) 160 SN)))))))))) (fun _ => rfl) rfl hl.1 rfl (Nat.le_of_ble_eq_true rfl) dX5_serve_32 ⟨Nat.le_of_ble_eq_true rfl, Nat.le_of_ble_eq_true rfl⟩ (fun _ H locs _ hP hD hS => ?_)
        refine W.eq (g2 := F0 m 35 ls [.int (iI ((cx p0 (4 + t0) : Nat) : Int)), .ref (r 0)]) rfl ?_
        refine lv_iload_n hx hb dX5_serve_35 rfl (lv_at hl 3 rfl) ?_
        refine x_callV (As := [.int (iI ((cx p0 (4 + t0) : Nat) : Int)), .int (iI v)]) (rest := []) ⟨hx, hb, hml, hown, hts⟩ (kX5_becomes r ik tn j T (cx p0 (4 + t0)) v (cx_lt1 (by omega) (by omega))) (cwV 2 hts gX5_serve_X5_becomes rfl rfl rfl ykVX5_becomes ⟨Nat.le_of_ble_eq_true rfl, Nat.le_of_ble_eq_true rfl⟩) hP hK hD hS 0 4 rfl rfl rfl [0, 1] rfl (by decide) (fun _ => rfl) (fun _ => wRo r ik tn j ++ (wA cI (r 1) 100 (va_up T (cx p0 (4 + t0)) v) ++ (wA cI (r 2) 100 K ++ (wA cI (r 3) 100 X ++ (wA cI (r 4) 100 Y ++ (wA cI (r 5) 8 (fR F) ++ (wA cI (r 6) 120 TB ++ (wA cI (r 7) 4 (bR SB) ++ (wA cI (r 8) 4 SS ++ (wA cI (r 9) 160 SN)))))))))) (fun _ => rfl) rfl hl.1 rfl (Nat.le_of_ble_eq_true rfl) dX5_serve_36 ⟨Nat.le_of_ble_eq_true rfl, Nat.le_of_ble_eq_true rfl⟩ (fun _ H locs _ hP hD hS => ?_)
        refine W.eq (g2 := F0 m 39 ls [.int (iI (T (cx p0 (4 + t0))))]) rfl ?_
        refine lv_goto (tgt := 48) hx hb dX5_serve_39 (by decide) ?_
        exact kend ((T (cx p0 (4 + t0)), (va_up T (cx p0 (4 + t0)) v), K, ik, SB, SS, SN, tn, TB, F), X, Y, j) hP hS rfl (if_pos (by omega)).symm dX5_serve_48
theorem ykSX5_plate : yX5_plate.cls ≠ "java/lang/invoke/MethodHandle" ∧ yX5_plate.cls ≠ "java/lang/invoke/VarHandle" ∧ (parseMethodDescriptor yX5_plate.desc).map (fun d => d.parameters.length) = some 2 := by decide +kernel
theorem ykVX5_plate : yX5_plate.cls = RX5 ∧ yX5_plate.cls ≠ "java/lang/invoke/MethodHandle" ∧ yX5_plate.cls ≠ "java/lang/invoke/VarHandle" ∧ (parseMethodDescriptor yX5_plate.desc).map (fun d => d.parameters.length) = some 2 := ⟨rfl, ykSX5_plate⟩
set_option maxHeartbeats 4000000 in
set_option maxRecDepth 100000 in
theorem kX5_plate {l : Launch} {D : va_G} {cI cB : ClassId} (r : Nat → Nat) (T K : Tb) (ik : Int) (SB SS SN : Nat → Int) (tn : Int) (TB F : Nat → Int) (X Y : Tb) (j : Nat → Int) (sp t : Int) (B : Int) (hG : GI B T K ik SB SS SN tn TB F) (hB : B ≤ 40000) (h_sp : rI sp) (h_t : rI t) : Ct l yX5_plate wsX5_plate 1 22 D [(cI, .int), (cB, .byte)] [.ref (r 0), .int (iI sp), .int (iI t)] (wM cI r (T, K, ik, SB, SS, SN, tn, TB, F) X Y j) (S := (Int × Gs) × Tb × Tb × (Nat → Int)) (fun u => some (.int (iI u.1.1))) (fun u => u.1 = m_plate sp t T K ik SB SS SN tn TB F) (fun u => wM cI r u.1.2 u.2.1 u.2.2.1 u.2.2.2) := by
  refine CtI.of (cc := cX5_plate) (maxL := 3) (by decide +kernel) rfl (Nat.le_of_ble_eq_true rfl) ?_
  intro pg e s m args below meth c Q A hx hb hml hts hown hP hK hD hS ls hl kend
  have hown : s.vm.findClass RX5 = some m.cls := hown
  have hl : lv_has ls 3 [(0, .ref (r 0)), (1, .int (iI sp)), (2, .int (iI t))] := hl
  obtain ⟨hI, hIK, hik, hSB, hSS, hSN, htn, hTB, hF⟩ := id hG
  have hn := Inv_n hI
  have hdy := Inv_d hI
  have hP : va_P D vwCl (wRo r ik tn j ++ (wA cI (r 1) 100 T ++ (wA cI (r 2) 100 K ++ (wA cI (r 3) 100 X ++ (wA cI (r 4) 100 Y ++ (wA cI (r 5) 8 (fR F) ++ (wA cI (r 6) 120 TB ++ (wA cI (r 7) 4 (bR SB) ++ (wA cI (r 8) 4 SS ++ (wA cI (r 9) 160 SN)))))))))) s.heap := hP
  have hD : va_D A (wRo r ik tn j ++ (wA cI (r 1) 100 T ++ (wA cI (r 2) 100 K ++ (wA cI (r 3) 100 X ++ (wA cI (r 4) 100 Y ++ (wA cI (r 5) 8 (fR F) ++ (wA cI (r 6) 120 TB ++ (wA cI (r 7) 4 (bR SB) ++ (wA cI (r 8) 4 SS ++ (wA cI (r 9) 160 SN)))))))))) := hD
  refine lv_aload_n hx hb dX5_plate_0 rfl (lv_at hl 0 rfl) ?_
  refine lv_iload_n hx hb dX5_plate_1 rfl (lv_at hl 1 rfl) ?_
  refine x_callV (As := [.int (iI sp)]) (rest := []) ⟨hx, hb, hml, hown, hts⟩ (kX5_isOne r ik tn j T sp (by omega) (by omega)) (cwV 1 hts gX5_plate_X5_isOne rfl rfl rfl ykVX5_isOne ⟨Nat.le_of_ble_eq_true rfl, Nat.le_of_ble_eq_true rfl⟩) hP hK hD hS 0 4 rfl rfl rfl [0, 1] rfl (by decide) (fun _ => rfl) (fun _ => wRo r ik tn j ++ (wA cI (r 1) 100 T ++ (wA cI (r 2) 100 K ++ (wA cI (r 3) 100 X ++ (wA cI (r 4) 100 Y ++ (wA cI (r 5) 8 (fR F) ++ (wA cI (r 6) 120 TB ++ (wA cI (r 7) 4 (bR SB) ++ (wA cI (r 8) 4 SS ++ (wA cI (r 9) 160 SN)))))))))) (fun _ => rfl) rfl hl.1 rfl (Nat.le_of_ble_eq_true rfl) dX5_plate_2 ⟨Nat.le_of_ble_eq_true rfl, Nat.le_of_ble_eq_true rfl⟩ (fun _ H locs _ hP hD hS => ?_)
  refine W.eq (g2 := F0 m 5 ls [.int (iI (b2 (decide (0 ≤ sp ∧ sp < T 0))))]) rfl ?_
  refine x_ifb_eq (tgt := 26) hx hb dX5_plate_5 (by decide) (fun c_5 => ?_) (fun c_5 => ?_)
  · refine lv_aload_n hx hb dX5_plate_26 rfl (lv_at hl 0 rfl) ?_
    refine x_ldc hx hb (-1000001) rfl hown (hts (.constant RX5 37 (-1000001)) (by decide +kernel)) dX5_plate_27 ?_
    refine x_callV (As := [.int (iI (-1000001))]) (rest := []) ⟨hx, hb, hml, hown, hts⟩ (kX5_finds r ik tn j F (-1000001) 0 (by omega) (by omega)) (cwV 1 hts gX5_plate_X5_finds rfl rfl rfl ykVX5_finds ⟨Nat.le_of_ble_eq_true rfl, Nat.le_of_ble_eq_true rfl⟩) hP hK hD hS 0 4 rfl rfl rfl [0, 5] rfl (by decide) (fun _ => rfl) (fun _ => wRo r ik tn j ++ (wA cI (r 1) 100 T ++ (wA cI (r 2) 100 K ++ (wA cI (r 3) 100 X ++ (wA cI (r 4) 100 Y ++ (wA cI (r 5) 8 (fR (bmp 0 F)) ++ (wA cI (r 6) 120 TB ++ (wA cI (r 7) 4 (bR SB) ++ (wA cI (r 8) 4 SS ++ (wA cI (r 9) 160 SN)))))))))) (fun _ => rfl) rfl hl.1 rfl (Nat.le_of_ble_eq_true rfl) dX5_plate_29 ⟨Nat.le_of_ble_eq_true rfl, Nat.le_of_ble_eq_true rfl⟩ (fun _ H locs _ hP hD hS => ?_)
    refine W.eq (g2 := F0 m 32 ls [.int (iI (-1000001))]) rfl ?_
    exact kend (((-1000001), T, K, ik, SB, SS, SN, tn, TB, (bmp 0 F)), X, Y, j) hP hS rfl (if_neg (by omega)).symm dX5_plate_32
  · refine lv_iload_n hx hb dX5_plate_8 rfl (lv_at hl 2 rfl) ?_
    refine x_callS (As := [.int (iI t)]) (rest := []) ⟨hx, hb, hml, hown, hts⟩ (kX5_isTaste t (by omega)) (va_cwS 1 hts gX5_plate_X5_isTaste rfl rfl rfl ykSX5_isTaste ⟨Nat.le_of_ble_eq_true rfl, Nat.le_of_ble_eq_true rfl⟩) hP hK hD hS [] rfl (by decide) (fun _ => rfl) (fun _ => wRo r ik tn j ++ (wA cI (r 1) 100 T ++ (wA cI (r 2) 100 K ++ (wA cI (r 3) 100 X ++ (wA cI (r 4) 100 Y ++ (wA cI (r 5) 8 (fR F) ++ (wA cI (r 6) 120 TB ++ (wA cI (r 7) 4 (bR SB) ++ (wA cI (r 8) 4 SS ++ (wA cI (r 9) 160 SN)))))))))) (fun _ => rfl) rfl hl.1 rfl (Nat.le_of_ble_eq_true rfl) dX5_plate_9 ⟨Nat.le_of_ble_eq_true rfl, Nat.le_of_ble_eq_true rfl⟩ (fun _ H locs _ hP hD hS => ?_)
    refine W.eq (g2 := F0 m 12 ls [.int (iI (b2 (decide (0 ≤ t ∧ t < 6))))]) rfl ?_
    refine x_ifb_eq (tgt := 26) hx hb dX5_plate_12 (by decide) (fun c_12 => ?_) (fun c_12 => ?_)
    · refine lv_aload_n hx hb dX5_plate_26 rfl (lv_at hl 0 rfl) ?_
      refine x_ldc hx hb (-1000001) rfl hown (hts (.constant RX5 37 (-1000001)) (by decide +kernel)) dX5_plate_27 ?_
      refine x_callV (As := [.int (iI (-1000001))]) (rest := []) ⟨hx, hb, hml, hown, hts⟩ (kX5_finds r ik tn j F (-1000001) 0 (by omega) (by omega)) (cwV 1 hts gX5_plate_X5_finds rfl rfl rfl ykVX5_finds ⟨Nat.le_of_ble_eq_true rfl, Nat.le_of_ble_eq_true rfl⟩) hP hK hD hS 0 4 rfl rfl rfl [0, 5] rfl (by decide) (fun _ => rfl) (fun _ => wRo r ik tn j ++ (wA cI (r 1) 100 T ++ (wA cI (r 2) 100 K ++ (wA cI (r 3) 100 X ++ (wA cI (r 4) 100 Y ++ (wA cI (r 5) 8 (fR (bmp 0 F)) ++ (wA cI (r 6) 120 TB ++ (wA cI (r 7) 4 (bR SB) ++ (wA cI (r 8) 4 SS ++ (wA cI (r 9) 160 SN)))))))))) (fun _ => rfl) rfl hl.1 rfl (Nat.le_of_ble_eq_true rfl) dX5_plate_29 ⟨Nat.le_of_ble_eq_true rfl, Nat.le_of_ble_eq_true rfl⟩ (fun _ H locs _ hP hD hS => ?_)
      refine W.eq (g2 := F0 m 32 ls [.int (iI (-1000001))]) rfl ?_
      exact kend (((-1000001), T, K, ik, SB, SS, SN, tn, TB, (bmp 0 F)), X, Y, j) hP hS rfl (if_neg (by omega)).symm dX5_plate_32
    · obtain ⟨p0, rfl⟩ : ∃ p0 : Nat, sp = (p0 : Int) := ⟨sp.toNat, by omega⟩
      obtain ⟨t0, rfl⟩ : ∃ t0 : Nat, t = (t0 : Int) := ⟨t.toNat, by omega⟩
      refine lv_aload_n hx hb dX5_plate_15 rfl (lv_at hl 0 rfl) ?_
      refine lv_iload_n hx hb dX5_plate_16 rfl (lv_at hl 1 rfl) ?_
      refine x_iconst hx hb dX5_plate_17 ?_
      refine lv_iload_n hx hb dX5_plate_18 rfl (lv_at hl 2 rfl) ?_
      refine x_iadd hx hb dX5_plate_19 ?_
      refine x_topi ((4 + t0 : Nat) : Int) (by omega) ?_
      refine x_callV (As := [.int (iI ((p0 : Nat) : Int)), .int (iI ((4 + t0 : Nat) : Int))]) (rest := []) ⟨hx, hb, hml, hown, hts⟩ (kX5_its r ik tn j T p0 (4 + t0) (by omega) (by omega)) (cwV 2 hts gX5_plate_X5_its rfl rfl rfl ykVX5_its ⟨Nat.le_of_ble_eq_true rfl, Nat.le_of_ble_eq_true rfl⟩) hP hK hD hS 0 4 rfl rfl rfl [0, 1] rfl (by decide) (fun _ => rfl) (fun _ => wRo r ik tn j ++ (wA cI (r 1) 100 T ++ (wA cI (r 2) 100 K ++ (wA cI (r 3) 100 X ++ (wA cI (r 4) 100 Y ++ (wA cI (r 5) 8 (fR F) ++ (wA cI (r 6) 120 TB ++ (wA cI (r 7) 4 (bR SB) ++ (wA cI (r 8) 4 SS ++ (wA cI (r 9) 160 SN)))))))))) (fun _ => rfl) rfl hl.1 rfl (Nat.le_of_ble_eq_true rfl) dX5_plate_20 ⟨Nat.le_of_ble_eq_true rfl, Nat.le_of_ble_eq_true rfl⟩ (fun _ H locs _ hP hD hS => ?_)
      refine W.eq (g2 := F0 m 23 ls [.int (iI (T (cx p0 (4 + t0))))]) rfl ?_
      refine lv_goto (tgt := 32) hx hb dX5_plate_23 (by decide) ?_
      exact kend ((T (cx p0 (4 + t0)), T, K, ik, SB, SS, SN, tn, TB, F), X, Y, j) hP hS rfl (if_pos (by omega)).symm dX5_plate_32
theorem ykSX5_chews : yX5_chews.cls ≠ "java/lang/invoke/MethodHandle" ∧ yX5_chews.cls ≠ "java/lang/invoke/VarHandle" ∧ (parseMethodDescriptor yX5_chews.desc).map (fun d => d.parameters.length) = some 2 := by decide +kernel
theorem ykVX5_chews : yX5_chews.cls = RX5 ∧ yX5_chews.cls ≠ "java/lang/invoke/MethodHandle" ∧ yX5_chews.cls ≠ "java/lang/invoke/VarHandle" ∧ (parseMethodDescriptor yX5_chews.desc).map (fun d => d.parameters.length) = some 2 := ⟨rfl, ykSX5_chews⟩
set_option maxHeartbeats 4000000 in
set_option maxRecDepth 100000 in
theorem kX5_chews {l : Launch} {D : va_G} {cI cB : ClassId} (r : Nat → Nat) (T K : Tb) (ik : Int) (SB SS SN : Nat → Int) (tn : Int) (TB F : Nat → Int) (X Y : Tb) (j : Nat → Int) (sp t : Int) (B : Int) (hG : GI B T K ik SB SS SN tn TB F) (hB : B ≤ 40000) (h_sp : rI sp) (h_t : rI t) : Ct l yX5_chews wsX5_chews 1 23 D [(cI, .int), (cB, .byte)] [.ref (r 0), .int (iI sp), .int (iI t)] (wM cI r (T, K, ik, SB, SS, SN, tn, TB, F) X Y j) (S := (Int × Gs) × Tb × Tb × (Nat → Int)) (fun u => some (.int (iI u.1.1))) (fun u => u.1 = m_chews sp t T K ik SB SS SN tn TB F) (fun u => wM cI r u.1.2 u.2.1 u.2.2.1 u.2.2.2) := by
  refine CtI.of (cc := cX5_chews) (maxL := 3) (by decide +kernel) rfl (Nat.le_of_ble_eq_true rfl) ?_
  intro pg e s m args below meth c Q A hx hb hml hts hown hP hK hD hS ls hl kend
  have hown : s.vm.findClass RX5 = some m.cls := hown
  have hl : lv_has ls 3 [(0, .ref (r 0)), (1, .int (iI sp)), (2, .int (iI t))] := hl
  obtain ⟨hI, hIK, hik, hSB, hSS, hSN, htn, hTB, hF⟩ := id hG
  have hn := Inv_n hI
  have hdy := Inv_d hI
  have hP : va_P D vwCl (wRo r ik tn j ++ (wA cI (r 1) 100 T ++ (wA cI (r 2) 100 K ++ (wA cI (r 3) 100 X ++ (wA cI (r 4) 100 Y ++ (wA cI (r 5) 8 (fR F) ++ (wA cI (r 6) 120 TB ++ (wA cI (r 7) 4 (bR SB) ++ (wA cI (r 8) 4 SS ++ (wA cI (r 9) 160 SN)))))))))) s.heap := hP
  have hD : va_D A (wRo r ik tn j ++ (wA cI (r 1) 100 T ++ (wA cI (r 2) 100 K ++ (wA cI (r 3) 100 X ++ (wA cI (r 4) 100 Y ++ (wA cI (r 5) 8 (fR F) ++ (wA cI (r 6) 120 TB ++ (wA cI (r 7) 4 (bR SB) ++ (wA cI (r 8) 4 SS ++ (wA cI (r 9) 160 SN)))))))))) := hD
  refine lv_aload_n hx hb dX5_chews_0 rfl (lv_at hl 0 rfl) ?_
  refine lv_iload_n hx hb dX5_chews_1 rfl (lv_at hl 1 rfl) ?_
  refine x_callV (As := [.int (iI sp)]) (rest := []) ⟨hx, hb, hml, hown, hts⟩ (kX5_isOne r ik tn j T sp (by omega) (by omega)) (cwV 1 hts gX5_chews_X5_isOne rfl rfl rfl ykVX5_isOne ⟨Nat.le_of_ble_eq_true rfl, Nat.le_of_ble_eq_true rfl⟩) hP hK hD hS 0 4 rfl rfl rfl [0, 1] rfl (by decide) (fun _ => rfl) (fun _ => wRo r ik tn j ++ (wA cI (r 1) 100 T ++ (wA cI (r 2) 100 K ++ (wA cI (r 3) 100 X ++ (wA cI (r 4) 100 Y ++ (wA cI (r 5) 8 (fR F) ++ (wA cI (r 6) 120 TB ++ (wA cI (r 7) 4 (bR SB) ++ (wA cI (r 8) 4 SS ++ (wA cI (r 9) 160 SN)))))))))) (fun _ => rfl) rfl hl.1 rfl (Nat.le_of_ble_eq_true rfl) dX5_chews_2 ⟨Nat.le_of_ble_eq_true rfl, Nat.le_of_ble_eq_true rfl⟩ (fun _ H locs _ hP hD hS => ?_)
  refine W.eq (g2 := F0 m 5 ls [.int (iI (b2 (decide (0 ≤ sp ∧ sp < T 0))))]) rfl ?_
  refine x_ifb_eq (tgt := 29) hx hb dX5_chews_5 (by decide) (fun c_5 => ?_) (fun c_5 => ?_)
  · refine lv_aload_n hx hb dX5_chews_29 rfl (lv_at hl 0 rfl) ?_
    refine x_ldc hx hb (-1000001) rfl hown (hts (.constant RX5 37 (-1000001)) (by decide +kernel)) dX5_chews_30 ?_
    refine x_callV (As := [.int (iI (-1000001))]) (rest := []) ⟨hx, hb, hml, hown, hts⟩ (kX5_finds r ik tn j F (-1000001) 0 (by omega) (by omega)) (cwV 1 hts gX5_chews_X5_finds rfl rfl rfl ykVX5_finds ⟨Nat.le_of_ble_eq_true rfl, Nat.le_of_ble_eq_true rfl⟩) hP hK hD hS 0 4 rfl rfl rfl [0, 5] rfl (by decide) (fun _ => rfl) (fun _ => wRo r ik tn j ++ (wA cI (r 1) 100 T ++ (wA cI (r 2) 100 K ++ (wA cI (r 3) 100 X ++ (wA cI (r 4) 100 Y ++ (wA cI (r 5) 8 (fR (bmp 0 F)) ++ (wA cI (r 6) 120 TB ++ (wA cI (r 7) 4 (bR SB) ++ (wA cI (r 8) 4 SS ++ (wA cI (r 9) 160 SN)))))))))) (fun _ => rfl) rfl hl.1 rfl (Nat.le_of_ble_eq_true rfl) dX5_chews_32 ⟨Nat.le_of_ble_eq_true rfl, Nat.le_of_ble_eq_true rfl⟩ (fun _ H locs _ hP hD hS => ?_)
    refine W.eq (g2 := F0 m 35 ls [.int (iI (-1000001))]) rfl ?_
    exact kend (((-1000001), T, K, ik, SB, SS, SN, tn, TB, (bmp 0 F)), X, Y, j) hP hS rfl (if_neg (by omega)).symm dX5_chews_35
  · refine lv_iload_n hx hb dX5_chews_8 rfl (lv_at hl 2 rfl) ?_
    refine x_callS (As := [.int (iI t)]) (rest := []) ⟨hx, hb, hml, hown, hts⟩ (kX5_isTaste t (by omega)) (va_cwS 1 hts gX5_chews_X5_isTaste rfl rfl rfl ykSX5_isTaste ⟨Nat.le_of_ble_eq_true rfl, Nat.le_of_ble_eq_true rfl⟩) hP hK hD hS [] rfl (by decide) (fun _ => rfl) (fun _ => wRo r ik tn j ++ (wA cI (r 1) 100 T ++ (wA cI (r 2) 100 K ++ (wA cI (r 3) 100 X ++ (wA cI (r 4) 100 Y ++ (wA cI (r 5) 8 (fR F) ++ (wA cI (r 6) 120 TB ++ (wA cI (r 7) 4 (bR SB) ++ (wA cI (r 8) 4 SS ++ (wA cI (r 9) 160 SN)))))))))) (fun _ => rfl) rfl hl.1 rfl (Nat.le_of_ble_eq_true rfl) dX5_chews_9 ⟨Nat.le_of_ble_eq_true rfl, Nat.le_of_ble_eq_true rfl⟩ (fun _ H locs _ hP hD hS => ?_)
    refine W.eq (g2 := F0 m 12 ls [.int (iI (b2 (decide (0 ≤ t ∧ t < 6))))]) rfl ?_
    refine x_ifb_eq (tgt := 29) hx hb dX5_chews_12 (by decide) (fun c_12 => ?_) (fun c_12 => ?_)
    · refine lv_aload_n hx hb dX5_chews_29 rfl (lv_at hl 0 rfl) ?_
      refine x_ldc hx hb (-1000001) rfl hown (hts (.constant RX5 37 (-1000001)) (by decide +kernel)) dX5_chews_30 ?_
      refine x_callV (As := [.int (iI (-1000001))]) (rest := []) ⟨hx, hb, hml, hown, hts⟩ (kX5_finds r ik tn j F (-1000001) 0 (by omega) (by omega)) (cwV 1 hts gX5_chews_X5_finds rfl rfl rfl ykVX5_finds ⟨Nat.le_of_ble_eq_true rfl, Nat.le_of_ble_eq_true rfl⟩) hP hK hD hS 0 4 rfl rfl rfl [0, 5] rfl (by decide) (fun _ => rfl) (fun _ => wRo r ik tn j ++ (wA cI (r 1) 100 T ++ (wA cI (r 2) 100 K ++ (wA cI (r 3) 100 X ++ (wA cI (r 4) 100 Y ++ (wA cI (r 5) 8 (fR (bmp 0 F)) ++ (wA cI (r 6) 120 TB ++ (wA cI (r 7) 4 (bR SB) ++ (wA cI (r 8) 4 SS ++ (wA cI (r 9) 160 SN)))))))))) (fun _ => rfl) rfl hl.1 rfl (Nat.le_of_ble_eq_true rfl) dX5_chews_32 ⟨Nat.le_of_ble_eq_true rfl, Nat.le_of_ble_eq_true rfl⟩ (fun _ H locs _ hP hD hS => ?_)
      refine W.eq (g2 := F0 m 35 ls [.int (iI (-1000001))]) rfl ?_
      exact kend (((-1000001), T, K, ik, SB, SS, SN, tn, TB, (bmp 0 F)), X, Y, j) hP hS rfl (if_neg (by omega)).symm dX5_chews_35
    · obtain ⟨p0, rfl⟩ : ∃ p0 : Nat, sp = (p0 : Int) := ⟨sp.toNat, by omega⟩
      obtain ⟨t0, rfl⟩ : ∃ t0 : Nat, t = (t0 : Int) := ⟨t.toNat, by omega⟩
      have hkd := Inv_k (p := p0) hI (by omega)
      have hvn := Inv_v hI
      refine lv_aload_n hx hb dX5_chews_15 rfl (lv_at hl 0 rfl) ?_
      refine lv_aload_n hx hb dX5_chews_16 rfl (lv_at hl 0 rfl) ?_
      refine lv_iload_n hx hb dX5_chews_17 rfl (lv_at hl 1 rfl) ?_
      refine x_iconst hx hb dX5_chews_18 ?_
      refine x_callV (As := [.int (iI ((p0 : Nat) : Int)), .int (iI 0)]) (rest := [.ref (r 0)]) ⟨hx, hb, hml, hown, hts⟩ (kX5_its r ik tn j T p0 0 (by omega) (by omega)) (cwV 2 hts gX5_chews_X5_its rfl rfl rfl ykVX5_its ⟨Nat.le_of_ble_eq_true rfl, Nat.le_of_ble_eq_true rfl⟩) hP hK hD hS 0 4 rfl rfl rfl [0, 1] rfl (by decide) (fun _ => rfl) (fun _ => wRo r ik tn j ++ (wA cI (r 1) 100 T ++ (wA cI (r 2) 100 K ++ (wA cI (r 3) 100 X ++ (wA cI (r 4) 100 Y ++ (wA cI (r 5) 8 (fR F) ++ (wA cI (r 6) 120 TB ++ (wA cI (r 7) 4 (bR SB) ++ (wA cI (r 8) 4 SS ++ (wA cI (r 9) 160 SN)))))))))) (fun _ => rfl) rfl hl.1 rfl (Nat.le_of_ble_eq_true rfl) dX5_chews_19 ⟨Nat.le_of_ble_eq_true rfl, Nat.le_of_ble_eq_true rfl⟩ (fun _ H locs _ hP hD hS => ?_)
      refine W.eq (g2 := F0 m 22 ls [.int (iI (T (cx p0 0))), .ref (r 0)]) rfl ?_
      refine lv_iload_n hx hb dX5_chews_22 rfl (lv_at hl 2 rfl) ?_
      refine x_callV (As := [.int (iI (T (cx p0 0))), .int (iI ((t0 : Nat) : Int))]) (rest := []) ⟨hx, hb, hml, hown, hts⟩ (kX5_chewsOf r ik tn j T (T (cx p0 0)) t0 (by omega) (by omega) hvn) (cwV 2 hts gX5_chews_X5_chewsOf rfl rfl rfl ykVX5_chewsOf ⟨Nat.le_of_ble_eq_true rfl, Nat.le_of_ble_eq_true rfl⟩) hP hK hD hS 0 4 rfl rfl rfl [0, 1] rfl (by decide) (fun _ => rfl) (fun _ => wRo r ik tn j ++ (wA cI (r 1) 100 T ++ (wA cI (r 2) 100 K ++ (wA cI (r 3) 100 X ++ (wA cI (r 4) 100 Y ++ (wA cI (r 5) 8 (fR F) ++ (wA cI (r 6) 120 TB ++ (wA cI (r 7) 4 (bR SB) ++ (wA cI (r 8) 4 SS ++ (wA cI (r 9) 160 SN)))))))))) (fun _ => rfl) rfl hl.1 rfl (Nat.le_of_ble_eq_true rfl) dX5_chews_23 ⟨Nat.le_of_ble_eq_true rfl, Nat.le_of_ble_eq_true rfl⟩ (fun _ H locs _ hP hD hS => ?_)
      refine W.eq (g2 := F0 m 26 ls [.int (iI (chF (T (cx p0 0)) ((t0 : Nat) : Int) (T 3)))]) rfl ?_
      refine lv_goto (tgt := 35) hx hb dX5_chews_26 (by decide) ?_
      exact kend ((chF (T (cx p0 0)) ((t0 : Nat) : Int) (T 3), T, K, ik, SB, SS, SN, tn, TB, F), X, Y, j) hP hS rfl (if_pos (by omega)).symm dX5_chews_35
theorem ykSX5_talks : yX5_talks.cls ≠ "java/lang/invoke/MethodHandle" ∧ yX5_talks.cls ≠ "java/lang/invoke/VarHandle" ∧ (parseMethodDescriptor yX5_talks.desc).map (fun d => d.parameters.length) = some 2 := by decide +kernel
theorem ykVX5_talks : yX5_talks.cls = RX5 ∧ yX5_talks.cls ≠ "java/lang/invoke/MethodHandle" ∧ yX5_talks.cls ≠ "java/lang/invoke/VarHandle" ∧ (parseMethodDescriptor yX5_talks.desc).map (fun d => d.parameters.length) = some 2 := ⟨rfl, ykSX5_talks⟩
set_option maxHeartbeats 4000000 in
set_option maxRecDepth 100000 in
theorem kX5_talks {l : Launch} {D : va_G} {cI cB : ClassId} (r : Nat → Nat) (T K : Tb) (ik : Int) (SB SS SN : Nat → Int) (tn : Int) (TB F : Nat → Int) (X Y : Tb) (j : Nat → Int) (sp t : Int) (B : Int) (hG : GI B T K ik SB SS SN tn TB F) (hB : B ≤ 40000) (h_sp : rI sp) (h_t : rI t) : Ct l yX5_talks wsX5_talks 1 22 D [(cI, .int), (cB, .byte)] [.ref (r 0), .int (iI sp), .int (iI t)] (wM cI r (T, K, ik, SB, SS, SN, tn, TB, F) X Y j) (S := (Int × Gs) × Tb × Tb × (Nat → Int)) (fun u => some (.int (iI u.1.1))) (fun u => u.1 = m_talks sp t T K ik SB SS SN tn TB F) (fun u => wM cI r u.1.2 u.2.1 u.2.2.1 u.2.2.2) := by
  refine CtI.of (cc := cX5_talks) (maxL := 3) (by decide +kernel) rfl (Nat.le_of_ble_eq_true rfl) ?_
  intro pg e s m args below meth c Q A hx hb hml hts hown hP hK hD hS ls hl kend
  have hown : s.vm.findClass RX5 = some m.cls := hown
  have hl : lv_has ls 3 [(0, .ref (r 0)), (1, .int (iI sp)), (2, .int (iI t))] := hl
  obtain ⟨hI, hIK, hik, hSB, hSS, hSN, htn, hTB, hF⟩ := id hG
  have hn := Inv_n hI
  have hdy := Inv_d hI
  have hP : va_P D vwCl (wRo r ik tn j ++ (wA cI (r 1) 100 T ++ (wA cI (r 2) 100 K ++ (wA cI (r 3) 100 X ++ (wA cI (r 4) 100 Y ++ (wA cI (r 5) 8 (fR F) ++ (wA cI (r 6) 120 TB ++ (wA cI (r 7) 4 (bR SB) ++ (wA cI (r 8) 4 SS ++ (wA cI (r 9) 160 SN)))))))))) s.heap := hP
  have hD : va_D A (wRo r ik tn j ++ (wA cI (r 1) 100 T ++ (wA cI (r 2) 100 K ++ (wA cI (r 3) 100 X ++ (wA cI (r 4) 100 Y ++ (wA cI (r 5) 8 (fR F) ++ (wA cI (r 6) 120 TB ++ (wA cI (r 7) 4 (bR SB) ++ (wA cI (r 8) 4 SS ++ (wA cI (r 9) 160 SN)))))))))) := hD
  refine lv_aload_n hx hb dX5_talks_0 rfl (lv_at hl 0 rfl) ?_
  refine lv_iload_n hx hb dX5_talks_1 rfl (lv_at hl 1 rfl) ?_
  refine x_callV (As := [.int (iI sp)]) (rest := []) ⟨hx, hb, hml, hown, hts⟩ (kX5_isOne r ik tn j T sp (by omega) (by omega)) (cwV 1 hts gX5_talks_X5_isOne rfl rfl rfl ykVX5_isOne ⟨Nat.le_of_ble_eq_true rfl, Nat.le_of_ble_eq_true rfl⟩) hP hK hD hS 0 4 rfl rfl rfl [0, 1] rfl (by decide) (fun _ => rfl) (fun _ => wRo r ik tn j ++ (wA cI (r 1) 100 T ++ (wA cI (r 2) 100 K ++ (wA cI (r 3) 100 X ++ (wA cI (r 4) 100 Y ++ (wA cI (r 5) 8 (fR F) ++ (wA cI (r 6) 120 TB ++ (wA cI (r 7) 4 (bR SB) ++ (wA cI (r 8) 4 SS ++ (wA cI (r 9) 160 SN)))))))))) (fun _ => rfl) rfl hl.1 rfl (Nat.le_of_ble_eq_true rfl) dX5_talks_2 ⟨Nat.le_of_ble_eq_true rfl, Nat.le_of_ble_eq_true rfl⟩ (fun _ H locs _ hP hD hS => ?_)
  refine W.eq (g2 := F0 m 5 ls [.int (iI (b2 (decide (0 ≤ sp ∧ sp < T 0))))]) rfl ?_
  refine x_ifb_eq (tgt := 29) hx hb dX5_talks_5 (by decide) (fun c_5 => ?_) (fun c_5 => ?_)
  · refine lv_aload_n hx hb dX5_talks_29 rfl (lv_at hl 0 rfl) ?_
    refine x_ldc hx hb (-1000001) rfl hown (hts (.constant RX5 37 (-1000001)) (by decide +kernel)) dX5_talks_30 ?_
    refine x_callV (As := [.int (iI (-1000001))]) (rest := []) ⟨hx, hb, hml, hown, hts⟩ (kX5_finds r ik tn j F (-1000001) 0 (by omega) (by omega)) (cwV 1 hts gX5_talks_X5_finds rfl rfl rfl ykVX5_finds ⟨Nat.le_of_ble_eq_true rfl, Nat.le_of_ble_eq_true rfl⟩) hP hK hD hS 0 4 rfl rfl rfl [0, 5] rfl (by decide) (fun _ => rfl) (fun _ => wRo r ik tn j ++ (wA cI (r 1) 100 T ++ (wA cI (r 2) 100 K ++ (wA cI (r 3) 100 X ++ (wA cI (r 4) 100 Y ++ (wA cI (r 5) 8 (fR (bmp 0 F)) ++ (wA cI (r 6) 120 TB ++ (wA cI (r 7) 4 (bR SB) ++ (wA cI (r 8) 4 SS ++ (wA cI (r 9) 160 SN)))))))))) (fun _ => rfl) rfl hl.1 rfl (Nat.le_of_ble_eq_true rfl) dX5_talks_32 ⟨Nat.le_of_ble_eq_true rfl, Nat.le_of_ble_eq_true rfl⟩ (fun _ H locs _ hP hD hS => ?_)
    refine W.eq (g2 := F0 m 35 ls [.int (iI (-1000001))]) rfl ?_
    exact kend (((-1000001), T, K, ik, SB, SS, SN, tn, TB, (bmp 0 F)), X, Y, j) hP hS rfl (if_neg (by omega)).symm dX5_talks_35
  · refine lv_iload_n hx hb dX5_talks_8 rfl (lv_at hl 2 rfl) ?_
    refine x_callS (As := [.int (iI t)]) (rest := []) ⟨hx, hb, hml, hown, hts⟩ (kX5_isTaste t (by omega)) (va_cwS 1 hts gX5_talks_X5_isTaste rfl rfl rfl ykSX5_isTaste ⟨Nat.le_of_ble_eq_true rfl, Nat.le_of_ble_eq_true rfl⟩) hP hK hD hS [] rfl (by decide) (fun _ => rfl) (fun _ => wRo r ik tn j ++ (wA cI (r 1) 100 T ++ (wA cI (r 2) 100 K ++ (wA cI (r 3) 100 X ++ (wA cI (r 4) 100 Y ++ (wA cI (r 5) 8 (fR F) ++ (wA cI (r 6) 120 TB ++ (wA cI (r 7) 4 (bR SB) ++ (wA cI (r 8) 4 SS ++ (wA cI (r 9) 160 SN)))))))))) (fun _ => rfl) rfl hl.1 rfl (Nat.le_of_ble_eq_true rfl) dX5_talks_9 ⟨Nat.le_of_ble_eq_true rfl, Nat.le_of_ble_eq_true rfl⟩ (fun _ H locs _ hP hD hS => ?_)
    refine W.eq (g2 := F0 m 12 ls [.int (iI (b2 (decide (0 ≤ t ∧ t < 6))))]) rfl ?_
    refine x_ifb_eq (tgt := 29) hx hb dX5_talks_12 (by decide) (fun c_12 => ?_) (fun c_12 => ?_)
    · refine lv_aload_n hx hb dX5_talks_29 rfl (lv_at hl 0 rfl) ?_
      refine x_ldc hx hb (-1000001) rfl hown (hts (.constant RX5 37 (-1000001)) (by decide +kernel)) dX5_talks_30 ?_
      refine x_callV (As := [.int (iI (-1000001))]) (rest := []) ⟨hx, hb, hml, hown, hts⟩ (kX5_finds r ik tn j F (-1000001) 0 (by omega) (by omega)) (cwV 1 hts gX5_talks_X5_finds rfl rfl rfl ykVX5_finds ⟨Nat.le_of_ble_eq_true rfl, Nat.le_of_ble_eq_true rfl⟩) hP hK hD hS 0 4 rfl rfl rfl [0, 5] rfl (by decide) (fun _ => rfl) (fun _ => wRo r ik tn j ++ (wA cI (r 1) 100 T ++ (wA cI (r 2) 100 K ++ (wA cI (r 3) 100 X ++ (wA cI (r 4) 100 Y ++ (wA cI (r 5) 8 (fR (bmp 0 F)) ++ (wA cI (r 6) 120 TB ++ (wA cI (r 7) 4 (bR SB) ++ (wA cI (r 8) 4 SS ++ (wA cI (r 9) 160 SN)))))))))) (fun _ => rfl) rfl hl.1 rfl (Nat.le_of_ble_eq_true rfl) dX5_talks_32 ⟨Nat.le_of_ble_eq_true rfl, Nat.le_of_ble_eq_true rfl⟩ (fun _ H locs _ hP hD hS => ?_)
      refine W.eq (g2 := F0 m 35 ls [.int (iI (-1000001))]) rfl ?_
      exact kend (((-1000001), T, K, ik, SB, SS, SN, tn, TB, (bmp 0 F)), X, Y, j) hP hS rfl (if_neg (by omega)).symm dX5_talks_35
    · obtain ⟨p0, rfl⟩ : ∃ p0 : Nat, sp = (p0 : Int) := ⟨sp.toNat, by omega⟩
      obtain ⟨t0, rfl⟩ : ∃ t0 : Nat, t = (t0 : Int) := ⟨t.toNat, by omega⟩
      have hkd := Inv_k (p := p0) hI (by omega)
      have hvn := Inv_v hI
      refine lv_aload_n hx hb dX5_talks_15 rfl (lv_at hl 0 rfl) ?_
      refine lv_aload_n hx hb dX5_talks_16 rfl (lv_at hl 0 rfl) ?_
      refine lv_iload_n hx hb dX5_talks_17 rfl (lv_at hl 1 rfl) ?_
      refine x_iconst hx hb dX5_talks_18 ?_
      refine x_callV (As := [.int (iI ((p0 : Nat) : Int)), .int (iI 0)]) (rest := [.ref (r 0)]) ⟨hx, hb, hml, hown, hts⟩ (kX5_its r ik tn j T p0 0 (by omega) (by omega)) (cwV 2 hts gX5_talks_X5_its rfl rfl rfl ykVX5_its ⟨Nat.le_of_ble_eq_true rfl, Nat.le_of_ble_eq_true rfl⟩) hP hK hD hS 0 4 rfl rfl rfl [0, 1] rfl (by decide) (fun _ => rfl) (fun _ => wRo r ik tn j ++ (wA cI (r 1) 100 T ++ (wA cI (r 2) 100 K ++ (wA cI (r 3) 100 X ++ (wA cI (r 4) 100 Y ++ (wA cI (r 5) 8 (fR F) ++ (wA cI (r 6) 120 TB ++ (wA cI (r 7) 4 (bR SB) ++ (wA cI (r 8) 4 SS ++ (wA cI (r 9) 160 SN)))))))))) (fun _ => rfl) rfl hl.1 rfl (Nat.le_of_ble_eq_true rfl) dX5_talks_19 ⟨Nat.le_of_ble_eq_true rfl, Nat.le_of_ble_eq_true rfl⟩ (fun _ H locs _ hP hD hS => ?_)
      refine W.eq (g2 := F0 m 22 ls [.int (iI (T (cx p0 0))), .ref (r 0)]) rfl ?_
      refine lv_iload_n hx hb dX5_talks_22 rfl (lv_at hl 2 rfl) ?_
      refine x_callV (As := [.int (iI (T (cx p0 0))), .int (iI ((t0 : Nat) : Int))]) (rest := []) ⟨hx, hb, hml, hown, hts⟩ (kX5_talksOf r ik tn j T (T (cx p0 0)) t0 (by omega) (by omega) (by omega)) (cwV 2 hts gX5_talks_X5_talksOf rfl rfl rfl ykVX5_talksOf ⟨Nat.le_of_ble_eq_true rfl, Nat.le_of_ble_eq_true rfl⟩) hP hK hD hS 0 4 rfl rfl rfl [0, 1] rfl (by decide) (fun _ => rfl) (fun _ => wRo r ik tn j ++ (wA cI (r 1) 100 T ++ (wA cI (r 2) 100 K ++ (wA cI (r 3) 100 X ++ (wA cI (r 4) 100 Y ++ (wA cI (r 5) 8 (fR F) ++ (wA cI (r 6) 120 TB ++ (wA cI (r 7) 4 (bR SB) ++ (wA cI (r 8) 4 SS ++ (wA cI (r 9) 160 SN)))))))))) (fun _ => rfl) rfl hl.1 rfl (Nat.le_of_ble_eq_true rfl) dX5_talks_23 ⟨Nat.le_of_ble_eq_true rfl, Nat.le_of_ble_eq_true rfl⟩ (fun _ H locs _ hP hD hS => ?_)
      refine W.eq (g2 := F0 m 26 ls [.int (iI (tkF (T (cx p0 0)) ((t0 : Nat) : Int) (T 1)))]) rfl ?_
      refine lv_goto (tgt := 35) hx hb dX5_talks_26 (by decide) ?_
      exact kend ((tkF (T (cx p0 0)) ((t0 : Nat) : Int) (T 1), T, K, ik, SB, SS, SN, tn, TB, F), X, Y, j) hP hS rfl (if_pos (by omega)).symm dX5_talks_35
theorem ykSX5_go : yX5_go.cls ≠ "java/lang/invoke/MethodHandle" ∧ yX5_go.cls ≠ "java/lang/invoke/VarHandle" ∧ (parseMethodDescriptor yX5_go.desc).map (fun d => d.parameters.length) = some 1 := by decide +kernel
theorem ykVX5_go : yX5_go.cls = RX5 ∧ yX5_go.cls ≠ "java/lang/invoke/MethodHandle" ∧ yX5_go.cls ≠ "java/lang/invoke/VarHandle" ∧ (parseMethodDescriptor yX5_go.desc).map (fun d => d.parameters.length) = some 1 := ⟨rfl, ykSX5_go⟩
set_option maxRecDepth 20000 in
theorem iT_X5_go_X5 : ∀ w ∈ u_ws RX5 TX5 18, w ∈ wsX5_go := by decide +kernel
set_option maxHeartbeats 4000000 in
set_option maxRecDepth 100000 in
theorem kX5_go {l : Launch} {D : va_G} {cI cB : ClassId} (r : Nat → Nat) (T K : Tb) (ik : Int) (SB SS SN : Nat → Int) (tn : Int) (TB F : Nat → Int) (X Y : Tb) (j : Nat → Int) (n : Int) (B : Int) (hG : GI B T K ik SB SS SN tn TB F) (hB : B ≤ 40000) (h_n : rI n) : Ct l yX5_go wsX5_go 6 133 D [(cI, .int), (cB, .byte)] [.ref (r 0), .int (iI n)] (wM cI r (T, K, ik, SB, SS, SN, tn, TB, F) X Y j) (S := (Int × Gs) × Tb × Tb × (Nat → Int)) (fun u => some (.int (iI u.1.1))) (fun u => u.1 = m_go n T K ik SB SS SN tn TB F) (fun u => wM cI r u.1.2 u.2.1 u.2.2.1 u.2.2.2) := by
  refine CtI.of (cc := cX5_go) (maxL := 2) (by decide +kernel) rfl (Nat.le_of_ble_eq_true rfl) ?_
  intro pg e s m args below meth c Q A hx hb hml hts hown hP hK hD hS ls hl kend
  have hown : s.vm.findClass RX5 = some m.cls := hown
  have hl : lv_has ls 2 [(0, .ref (r 0)), (1, .int (iI n))] := hl
  obtain ⟨hI, hIK, hik, hSB, hSS, hSN, htn, hTB, hF⟩ := id hG
  have hn := Inv_n hI
  have hdy := Inv_d hI
  have hP : va_P D vwCl (wRo r ik tn j ++ (wA cI (r 1) 100 T ++ (wA cI (r 2) 100 K ++ (wA cI (r 3) 100 X ++ (wA cI (r 4) 100 Y ++ (wA cI (r 5) 8 (fR F) ++ (wA cI (r 6) 120 TB ++ (wA cI (r 7) 4 (bR SB) ++ (wA cI (r 8) 4 SS ++ (wA cI (r 9) 160 SN)))))))))) s.heap := hP
  have hD : va_D A (wRo r ik tn j ++ (wA cI (r 1) 100 T ++ (wA cI (r 2) 100 K ++ (wA cI (r 3) 100 X ++ (wA cI (r 4) 100 Y ++ (wA cI (r 5) 8 (fR F) ++ (wA cI (r 6) 120 TB ++ (wA cI (r 7) 4 (bR SB) ++ (wA cI (r 8) 4 SS ++ (wA cI (r 9) 160 SN)))))))))) := hD
  refine lv_iload_n hx hb dX5_go_0 rfl (lv_at hl 1 rfl) ?_
  refine x_i2l hx hb (by omega) dX5_go_1 ?_
  refine x_lconst hx hb 1 rfl dX5_go_2 ?_
  refine x_ldc2 hx hb 60 rfl hown (hts (.constantLong RX5 128 (60)) (by decide +kernel)) dX5_go_3 ?_
  refine x_callS (As := [.long (lI n), .long (lI 1), .long (lI 60)]) (rest := []) ⟨hx, hb, hml, hown, hts⟩ (kX5_isIn n 1 60 (by omega) (by omega) (by omega)) (va_cwS 3 hts gX5_go_X5_isIn rfl rfl rfl ykSX5_isIn ⟨Nat.le_of_ble_eq_true rfl, Nat.le_of_ble_eq_true rfl⟩) hP hK hD hS [] rfl (by decide) (fun _ => rfl) (fun _ => wRo r ik tn j ++ (wA cI (r 1) 100 T ++ (wA cI (r 2) 100 K ++ (wA cI (r 3) 100 X ++ (wA cI (r 4) 100 Y ++ (wA cI (r 5) 8 (fR F) ++ (wA cI (r 6) 120 TB ++ (wA cI (r 7) 4 (bR SB) ++ (wA cI (r 8) 4 SS ++ (wA cI (r 9) 160 SN)))))))))) (fun _ => rfl) rfl hl.1 rfl (Nat.le_of_ble_eq_true rfl) dX5_go_6 ⟨Nat.le_of_ble_eq_true rfl, Nat.le_of_ble_eq_true rfl⟩ (fun _ H locs _ hP hD hS => ?_)
  refine W.eq (g2 := F0 m 9 ls [.int (iI (b2 (decide (1 ≤ n ∧ n ≤ 60))))]) rfl ?_
  refine x_ifb_ne (tgt := 19) hx hb dX5_go_9 (by decide) (fun c_9 => ?_) (fun c_9 => ?_)
  · refine lv_aload_n hx hb dX5_go_19 rfl (lv_at hl 0 rfl) ?_
    refine va_get (D := D) (ci := 4) (v := .ref (r 1)) (C := RX5) (T := TX5) (N := 18) hx hb hts (iT_X5_go_X5) hown hK hP 0 rfl rfl 0 (by decide) (hts (.fieldLink RX5 7 "WordSupperModel" "s" "[I") (by decide +kernel)) (fun _ h9 => h9) rfl dX5_go_20 ?_
    refine x_iconst hx hb dX5_go_23 ?_
    refine x_iald hx hb hK hP 1 0 rfl rfl 1 rfl (by omega) (by decide) (T 1) (gd_at _ (by omega)) dX5_go_24 ?_
    refine lv_iload_n hx hb dX5_go_25 rfl (lv_at hl 1 rfl) ?_
    refine x_iadd hx hb dX5_go_26 ?_
    refine x_ldc hx hb 99999 rfl hown (hts (.constant RX5 117 (99999)) (by decide +kernel)) dX5_go_27 ?_
    refine x_icmp_le (tgt := 39) hx hb (by omega) (by decide) dX5_go_29 (by decide) (fun c_29 => ?_) (fun c_29 => ?_)
    · obtain ⟨n0, rfl⟩ : ∃ n0 : Nat, n = (n0 : Int) := ⟨n.toNat, by omega⟩
      refine lv_aload_n hx hb dX5_go_39 rfl (lv_at hl 0 rfl) ?_
      refine lv_iload_n hx hb dX5_go_40 rfl (lv_at hl 1 rfl) ?_
      refine x_callV (As := [.int (iI ((n0 : Nat) : Int))]) (rest := []) ⟨hx, hb, hml, hown, hts⟩ (kX5_goes r ik tn j T n0 B (by omega) (by omega) (by omega)) (cwV 1 hts gX5_go_X5_goes rfl rfl rfl ykVX5_goes ⟨Nat.le_of_ble_eq_true rfl, Nat.le_of_ble_eq_true rfl⟩) hP hK hD hS 0 4 rfl rfl rfl [0, 1] rfl (by decide) (fun _ => rfl) (fun u => wRo r ik tn u.2 ++ (wA cI (r 1) 100 u.1 ++ (wA cI (r 2) 100 K ++ (wA cI (r 3) 100 X ++ (wA cI (r 4) 100 Y ++ (wA cI (r 5) 8 (fR F) ++ (wA cI (r 6) 120 TB ++ (wA cI (r 7) 4 (bR SB) ++ (wA cI (r 8) 4 SS ++ (wA cI (r 9) 160 SN)))))))))) (fun _ => rfl) rfl hl.1 rfl (Nat.le_of_ble_eq_true rfl) dX5_go_41 ⟨Nat.le_of_ble_eq_true rfl, Nat.le_of_ble_eq_true rfl⟩ (fun u3 H locs hp4 hP hD hS => ?_)
      obtain ⟨T11, j12⟩ := u3
      replace hp4 : T11 = dsF 0 n0 T := hp4
      have hP : va_P D vwCl (wRo r ik tn j12 ++ (wA cI (r 1) 100 T11 ++ (wA cI (r 2) 100 K ++ (wA cI (r 3) 100 X ++ (wA cI (r 4) 100 Y ++ (wA cI (r 5) 8 (fR F) ++ (wA cI (r 6) 120 TB ++ (wA cI (r 7) 4 (bR SB) ++ (wA cI (r 8) 4 SS ++ (wA cI (r 9) 160 SN)))))))))) H := hP
      have hD : va_D A (wRo r ik tn j12 ++ (wA cI (r 1) 100 T11 ++ (wA cI (r 2) 100 K ++ (wA cI (r 3) 100 X ++ (wA cI (r 4) 100 Y ++ (wA cI (r 5) 8 (fR F) ++ (wA cI (r 6) 120 TB ++ (wA cI (r 7) 4 (bR SB) ++ (wA cI (r 8) 4 SS ++ (wA cI (r 9) 160 SN)))))))))) := hD
      refine W.eq (g2 := F0 m 44 ls []) rfl ?_
      have iV : Inv (B + (n0 : Int)) T11 := by rw [hp4]; exact (dsF_I n0 hI).1
      have nV : 0 ≤ T11 0 ∧ T11 0 ≤ 8 := Inv_n iV
      have nV0 : T11 0 = T 0 := by rw [hp4]; exact (dsF_I n0 hI).2.1
      refine lv_aload_n hx hb dX5_go_44 rfl (lv_at hl 0 rfl) ?_
      refine x_callV (As := []) (rest := []) ⟨hx, hb, hml, hown, hts⟩ (kX5_leftAll r ik tn j12 T11 nV) (cwV 0 hts gX5_go_X5_leftAll rfl rfl rfl ykVX5_leftAll ⟨Nat.le_of_ble_eq_true rfl, Nat.le_of_ble_eq_true rfl⟩) hP hK hD hS 0 4 rfl rfl rfl [0, 1] rfl (by decide) (fun _ => rfl) (fun _ => wRo r ik tn j12 ++ (wA cI (r 1) 100 T11 ++ (wA cI (r 2) 100 K ++ (wA cI (r 3) 100 X ++ (wA cI (r 4) 100 Y ++ (wA cI (r 5) 8 (fR F) ++ (wA cI (r 6) 120 TB ++ (wA cI (r 7) 4 (bR SB) ++ (wA cI (r 8) 4 SS ++ (wA cI (r 9) 160 SN)))))))))) (fun _ => rfl) rfl hl.1 rfl (Nat.le_of_ble_eq_true rfl) dX5_go_45 ⟨Nat.le_of_ble_eq_true rfl, Nat.le_of_ble_eq_true rfl⟩ (fun _ H locs _ hP hD hS => ?_)
      refine W.eq (g2 := F0 m 48 ls [.int (iI (alF T11))]) rfl ?_
      exact kend ((alF T11, T11, K, ik, SB, SS, SN, tn, TB, F), X, Y, j12) hP hS rfl (by rw [hp4]; exact (if_pos (by omega)).symm) dX5_go_48
    · exfalso; omega
  · refine lv_aload_n hx hb dX5_go_12 rfl (lv_at hl 0 rfl) ?_
    refine x_ldc hx hb (-1000001) rfl hown (hts (.constant RX5 37 (-1000001)) (by decide +kernel)) dX5_go_13 ?_
    refine x_callV (As := [.int (iI (-1000001))]) (rest := []) ⟨hx, hb, hml, hown, hts⟩ (kX5_finds r ik tn j F (-1000001) 0 (by omega) (by omega)) (cwV 1 hts gX5_go_X5_finds rfl rfl rfl ykVX5_finds ⟨Nat.le_of_ble_eq_true rfl, Nat.le_of_ble_eq_true rfl⟩) hP hK hD hS 0 4 rfl rfl rfl [0, 5] rfl (by decide) (fun _ => rfl) (fun _ => wRo r ik tn j ++ (wA cI (r 1) 100 T ++ (wA cI (r 2) 100 K ++ (wA cI (r 3) 100 X ++ (wA cI (r 4) 100 Y ++ (wA cI (r 5) 8 (fR (bmp 0 F)) ++ (wA cI (r 6) 120 TB ++ (wA cI (r 7) 4 (bR SB) ++ (wA cI (r 8) 4 SS ++ (wA cI (r 9) 160 SN)))))))))) (fun _ => rfl) rfl hl.1 rfl (Nat.le_of_ble_eq_true rfl) dX5_go_15 ⟨Nat.le_of_ble_eq_true rfl, Nat.le_of_ble_eq_true rfl⟩ (fun _ H locs _ hP hD hS => ?_)
    refine W.eq (g2 := F0 m 18 ls [.int (iI (-1000001))]) rfl ?_
    exact kend (((-1000001), T, K, ik, SB, SS, SN, tn, TB, (bmp 0 F)), X, Y, j) hP hS rfl (if_neg (by omega)).symm dX5_go_18
theorem ykSX5_now : yX5_now.cls ≠ "java/lang/invoke/MethodHandle" ∧ yX5_now.cls ≠ "java/lang/invoke/VarHandle" ∧ (parseMethodDescriptor yX5_now.desc).map (fun d => d.parameters.length) = some 1 := by decide +kernel
theorem ykVX5_now : yX5_now.cls = RX5 ∧ yX5_now.cls ≠ "java/lang/invoke/MethodHandle" ∧ yX5_now.cls ≠ "java/lang/invoke/VarHandle" ∧ (parseMethodDescriptor yX5_now.desc).map (fun d => d.parameters.length) = some 1 := ⟨rfl, ykSX5_now⟩
set_option maxRecDepth 20000 in
theorem iT_X5_now_X5 : ∀ w ∈ u_ws RX5 TX5 18, w ∈ wsX5_now := by decide +kernel
set_option maxHeartbeats 4000000 in
set_option maxRecDepth 100000 in
theorem kX5_now {l : Launch} {D : va_G} {cI cB : ClassId} (r : Nat → Nat) (T K : Tb) (ik : Int) (SB SS SN : Nat → Int) (tn : Int) (TB F : Nat → Int) (X Y : Tb) (j : Nat → Int) (wh : Int) (B : Int) (hG : GI B T K ik SB SS SN tn TB F) (hB : B ≤ 40000) (h_wh : rI wh) : Ct l yX5_now wsX5_now 3 67 D [(cI, .int), (cB, .byte)] [.ref (r 0), .int (iI wh)] (wM cI r (T, K, ik, SB, SS, SN, tn, TB, F) X Y j) (S := (Int × Gs) × Tb × Tb × (Nat → Int)) (fun u => some (.int (iI u.1.1))) (fun u => u.1 = m_now wh T K ik SB SS SN tn TB F) (fun u => wM cI r u.1.2 u.2.1 u.2.2.1 u.2.2.2) := by
  refine CtI.of (cc := cX5_now) (maxL := 2) (by decide +kernel) rfl (Nat.le_of_ble_eq_true rfl) ?_
  intro pg e s m args below meth c Q A hx hb hml hts hown hP hK hD hS ls hl kend
  have hown : s.vm.findClass RX5 = some m.cls := hown
  have hl : lv_has ls 2 [(0, .ref (r 0)), (1, .int (iI wh))] := hl
  obtain ⟨hI, hIK, hik, hSB, hSS, hSN, htn, hTB, hF⟩ := id hG
  have hn := Inv_n hI
  have hdy := Inv_d hI
  have hP : va_P D vwCl (wRo r ik tn j ++ (wA cI (r 1) 100 T ++ (wA cI (r 2) 100 K ++ (wA cI (r 3) 100 X ++ (wA cI (r 4) 100 Y ++ (wA cI (r 5) 8 (fR F) ++ (wA cI (r 6) 120 TB ++ (wA cI (r 7) 4 (bR SB) ++ (wA cI (r 8) 4 SS ++ (wA cI (r 9) 160 SN)))))))))) s.heap := hP
  have hD : va_D A (wRo r ik tn j ++ (wA cI (r 1) 100 T ++ (wA cI (r 2) 100 K ++ (wA cI (r 3) 100 X ++ (wA cI (r 4) 100 Y ++ (wA cI (r 5) 8 (fR F) ++ (wA cI (r 6) 120 TB ++ (wA cI (r 7) 4 (bR SB) ++ (wA cI (r 8) 4 SS ++ (wA cI (r 9) 160 SN)))))))))) := hD
  refine lv_iload_n hx hb dX5_now_0 rfl (lv_at hl 1 rfl) ?_
  rcases x_sw wh 0 6 with c_1 | c_1
  · refine lv_tableOut (tgt := 83) hx hb dX5_now_1 (by rw [iI_to (by omega)]; exact c_1) (by decide) ?_
    refine lv_aload_n hx hb dX5_now_83 rfl (lv_at hl 0 rfl) ?_
    refine x_ldc hx hb (-1000001) rfl hown (hts (.constant RX5 37 (-1000001)) (by decide +kernel)) dX5_now_84 ?_
    refine x_callV (As := [.int (iI (-1000001))]) (rest := []) ⟨hx, hb, hml, hown, hts⟩ (kX5_finds r ik tn j F (-1000001) 0 (by omega) (by omega)) (cwV 1 hts gX5_now_X5_finds rfl rfl rfl ykVX5_finds ⟨Nat.le_of_ble_eq_true rfl, Nat.le_of_ble_eq_true rfl⟩) hP hK hD hS 0 4 rfl rfl rfl [0, 5] rfl (by decide) (fun _ => rfl) (fun _ => wRo r ik tn j ++ (wA cI (r 1) 100 T ++ (wA cI (r 2) 100 K ++ (wA cI (r 3) 100 X ++ (wA cI (r 4) 100 Y ++ (wA cI (r 5) 8 (fR (bmp 0 F)) ++ (wA cI (r 6) 120 TB ++ (wA cI (r 7) 4 (bR SB) ++ (wA cI (r 8) 4 SS ++ (wA cI (r 9) 160 SN)))))))))) (fun _ => rfl) rfl hl.1 rfl (Nat.le_of_ble_eq_true rfl) dX5_now_86 ⟨Nat.le_of_ble_eq_true rfl, Nat.le_of_ble_eq_true rfl⟩ (fun _ H locs _ hP hD hS => ?_)
    refine W.eq (g2 := F0 m 89 ls [.int (iI (-1000001))]) rfl ?_
    exact kend (((-1000001), T, K, ik, SB, SS, SN, tn, TB, (bmp 0 F)), X, Y, j) hP hS rfl (if_neg (by omega)).symm dX5_now_89
  · obtain ⟨c_1a, c_1b⟩ := c_1
    by_cases e_1 : wh = 0
    · refine lv_tableIn (off := 43) (tgt := 44) hx hb dX5_now_1 (by rw [iI_to (by omega)]; omega) (by rw [iI_to (by omega)]; omega) (by rw [iI_to (by omega), e_1]; rfl) (by decide) ?_
      refine lv_aload_n hx hb dX5_now_44 rfl (lv_at hl 0 rfl) ?_
      refine va_get (D := D) (ci := 4) (v := .ref (r 1)) (C := RX5) (T := TX5) (N := 18) hx hb hts (iT_X5_now_X5) hown hK hP 0 rfl rfl 0 (by decide) (hts (.fieldLink RX5 7 "WordSupperModel" "s" "[I") (by decide +kernel)) (fun _ h9 => h9) rfl dX5_now_45 ?_
      refine x_iconst hx hb dX5_now_48 ?_
      refine x_iald hx hb hK hP 1 0 rfl rfl 1 rfl (by omega) (by decide) (T 1) (gd_at _ (by omega)) dX5_now_49 ?_
      exact kend ((T 1, T, K, ik, SB, SS, SN, tn, TB, F), X, Y, j) hP hS rfl (by unfold m_now nowF; rw [if_pos (by omega)]; subst e_1; rfl) dX5_now_50
    by_cases e_1 : wh = 1
    · refine lv_tableIn (off := 50) (tgt := 51) hx hb dX5_now_1 (by rw [iI_to (by omega)]; omega) (by rw [iI_to (by omega)]; omega) (by rw [iI_to (by omega), e_1]; rfl) (by decide) ?_
      refine lv_aload_n hx hb dX5_now_51 rfl (lv_at hl 0 rfl) ?_
      refine x_callV (As := []) (rest := []) ⟨hx, hb, hml, hown, hts⟩ (kX5_leftAll r ik tn j T (by omega)) (cwV 0 hts gX5_now_X5_leftAll rfl rfl rfl ykVX5_leftAll ⟨Nat.le_of_ble_eq_true rfl, Nat.le_of_ble_eq_true rfl⟩) hP hK hD hS 0 4 rfl rfl rfl [0, 1] rfl (by decide) (fun _ => rfl) (fun _ => wRo r ik tn j ++ (wA cI (r 1) 100 T ++ (wA cI (r 2) 100 K ++ (wA cI (r 3) 100 X ++ (wA cI (r 4) 100 Y ++ (wA cI (r 5) 8 (fR F) ++ (wA cI (r 6) 120 TB ++ (wA cI (r 7) 4 (bR SB) ++ (wA cI (r 8) 4 SS ++ (wA cI (r 9) 160 SN)))))))))) (fun _ => rfl) rfl hl.1 rfl (Nat.le_of_ble_eq_true rfl) dX5_now_52 ⟨Nat.le_of_ble_eq_true rfl, Nat.le_of_ble_eq_true rfl⟩ (fun _ H locs _ hP hD hS => ?_)
      refine W.eq (g2 := F0 m 55 ls [.int (iI (alF T))]) rfl ?_
      exact kend ((alF T, T, K, ik, SB, SS, SN, tn, TB, F), X, Y, j) hP hS rfl (by unfold m_now nowF; rw [if_pos (by omega)]; subst e_1; rfl) dX5_now_55
    by_cases e_1 : wh = 2
    · refine lv_tableIn (off := 55) (tgt := 56) hx hb dX5_now_1 (by rw [iI_to (by omega)]; omega) (by rw [iI_to (by omega)]; omega) (by rw [iI_to (by omega), e_1]; rfl) (by decide) ?_
      refine lv_aload_n hx hb dX5_now_56 rfl (lv_at hl 0 rfl) ?_
      refine x_callV (As := []) (rest := []) ⟨hx, hb, hml, hown, hts⟩ (kX5_cleanOnes r ik tn j T B (by omega)) (cwV 0 hts gX5_now_X5_cleanOnes rfl rfl rfl ykVX5_cleanOnes ⟨Nat.le_of_ble_eq_true rfl, Nat.le_of_ble_eq_true rfl⟩) hP hK hD hS 0 4 rfl rfl rfl [0, 1] rfl (by decide) (fun _ => rfl) (fun _ => wRo r ik tn j ++ (wA cI (r 1) 100 T ++ (wA cI (r 2) 100 K ++ (wA cI (r 3) 100 X ++ (wA cI (r 4) 100 Y ++ (wA cI (r 5) 8 (fR F) ++ (wA cI (r 6) 120 TB ++ (wA cI (r 7) 4 (bR SB) ++ (wA cI (r 8) 4 SS ++ (wA cI (r 9) 160 SN)))))))))) (fun _ => rfl) rfl hl.1 rfl (Nat.le_of_ble_eq_true rfl) dX5_now_57 ⟨Nat.le_of_ble_eq_true rfl, Nat.le_of_ble_eq_true rfl⟩ (fun _ H locs _ hP hD hS => ?_)
      refine W.eq (g2 := F0 m 60 ls [.int (iI (cnF T))]) rfl ?_
      exact kend ((cnF T, T, K, ik, SB, SS, SN, tn, TB, F), X, Y, j) hP hS rfl (by unfold m_now nowF; rw [if_pos (by omega)]; subst e_1; rfl) dX5_now_60
    by_cases e_1 : wh = 3
    · refine lv_tableIn (off := 60) (tgt := 61) hx hb dX5_now_1 (by rw [iI_to (by omega)]; omega) (by rw [iI_to (by omega)]; omega) (by rw [iI_to (by omega), e_1]; rfl) (by decide) ?_
      refine lv_aload_n hx hb dX5_now_61 rfl (lv_at hl 0 rfl) ?_
      refine x_iconst hx hb dX5_now_62 ?_
      refine x_callV (As := [.int (iI 2)]) (rest := []) ⟨hx, hb, hml, hown, hts⟩ (kX5_sumOf r ik tn j T 2 (by omega) (by omega)) (cwV 1 hts gX5_now_X5_sumOf rfl rfl rfl ykVX5_sumOf ⟨Nat.le_of_ble_eq_true rfl, Nat.le_of_ble_eq_true rfl⟩) hP hK hD hS 0 4 rfl rfl rfl [0, 1] rfl (by decide) (fun _ => rfl) (fun _ => wRo r ik tn j ++ (wA cI (r 1) 100 T ++ (wA cI (r 2) 100 K ++ (wA cI (r 3) 100 X ++ (wA cI (r 4) 100 Y ++ (wA cI (r 5) 8 (fR F) ++ (wA cI (r 6) 120 TB ++ (wA cI (r 7) 4 (bR SB) ++ (wA cI (r 8) 4 SS ++ (wA cI (r 9) 160 SN)))))))))) (fun _ => rfl) rfl hl.1 rfl (Nat.le_of_ble_eq_true rfl) dX5_now_63 ⟨Nat.le_of_ble_eq_true rfl, Nat.le_of_ble_eq_true rfl⟩ (fun _ H locs _ hP hD hS => ?_)
      refine W.eq (g2 := F0 m 66 ls [.int (iI (smF T 2))]) rfl ?_
      exact kend ((smF T 2, T, K, ik, SB, SS, SN, tn, TB, F), X, Y, j) hP hS rfl (by unfold m_now nowF; rw [if_pos (by omega)]; subst e_1; rfl) dX5_now_66
    by_cases e_1 : wh = 4
    · refine lv_tableIn (off := 66) (tgt := 67) hx hb dX5_now_1 (by rw [iI_to (by omega)]; omega) (by rw [iI_to (by omega)]; omega) (by rw [iI_to (by omega), e_1]; rfl) (by decide) ?_
      refine lv_aload_n hx hb dX5_now_67 rfl (lv_at hl 0 rfl) ?_
      refine x_iconst hx hb dX5_now_68 ?_
      refine x_callV (As := [.int (iI 3)]) (rest := []) ⟨hx, hb, hml, hown, hts⟩ (kX5_sumOf r ik tn j T 3 (by omega) (by omega)) (cwV 1 hts gX5_now_X5_sumOf rfl rfl rfl ykVX5_sumOf ⟨Nat.le_of_ble_eq_true rfl, Nat.le_of_ble_eq_true rfl⟩) hP hK hD hS 0 4 rfl rfl rfl [0, 1] rfl (by decide) (fun _ => rfl) (fun _ => wRo r ik tn j ++ (wA cI (r 1) 100 T ++ (wA cI (r 2) 100 K ++ (wA cI (r 3) 100 X ++ (wA cI (r 4) 100 Y ++ (wA cI (r 5) 8 (fR F) ++ (wA cI (r 6) 120 TB ++ (wA cI (r 7) 4 (bR SB) ++ (wA cI (r 8) 4 SS ++ (wA cI (r 9) 160 SN)))))))))) (fun _ => rfl) rfl hl.1 rfl (Nat.le_of_ble_eq_true rfl) dX5_now_69 ⟨Nat.le_of_ble_eq_true rfl, Nat.le_of_ble_eq_true rfl⟩ (fun _ H locs _ hP hD hS => ?_)
      refine W.eq (g2 := F0 m 72 ls [.int (iI (smF T 3))]) rfl ?_
      exact kend ((smF T 3, T, K, ik, SB, SS, SN, tn, TB, F), X, Y, j) hP hS rfl (by unfold m_now nowF; rw [if_pos (by omega)]; subst e_1; rfl) dX5_now_72
    by_cases e_1 : wh = 5
    · refine lv_tableIn (off := 72) (tgt := 73) hx hb dX5_now_1 (by rw [iI_to (by omega)]; omega) (by rw [iI_to (by omega)]; omega) (by rw [iI_to (by omega), e_1]; rfl) (by decide) ?_
      refine lv_aload_n hx hb dX5_now_73 rfl (lv_at hl 0 rfl) ?_
      refine x_callV (As := []) (rest := []) ⟨hx, hb, hml, hown, hts⟩ (kX5_fullest r ik tn j T B (by omega)) (cwV 0 hts gX5_now_X5_fullest rfl rfl rfl ykVX5_fullest ⟨Nat.le_of_ble_eq_true rfl, Nat.le_of_ble_eq_true rfl⟩) hP hK hD hS 0 4 rfl rfl rfl [0, 1] rfl (by decide) (fun _ => rfl) (fun _ => wRo r ik tn j ++ (wA cI (r 1) 100 T ++ (wA cI (r 2) 100 K ++ (wA cI (r 3) 100 X ++ (wA cI (r 4) 100 Y ++ (wA cI (r 5) 8 (fR F) ++ (wA cI (r 6) 120 TB ++ (wA cI (r 7) 4 (bR SB) ++ (wA cI (r 8) 4 SS ++ (wA cI (r 9) 160 SN)))))))))) (fun _ => rfl) rfl hl.1 rfl (Nat.le_of_ble_eq_true rfl) dX5_now_74 ⟨Nat.le_of_ble_eq_true rfl, Nat.le_of_ble_eq_true rfl⟩ (fun _ H locs _ hP hD hS => ?_)
      refine W.eq (g2 := F0 m 77 ls [.int (iI (fuF T))]) rfl ?_
      exact kend ((fuF T, T, K, ik, SB, SS, SN, tn, TB, F), X, Y, j) hP hS rfl (by unfold m_now nowF; rw [if_pos (by omega)]; subst e_1; rfl) dX5_now_77
    have e_1 : wh = 6 := by omega
    refine lv_tableIn (off := 77) (tgt := 78) hx hb dX5_now_1 (by rw [iI_to (by omega)]; omega) (by rw [iI_to (by omega)]; omega) (by rw [iI_to (by omega), e_1]; rfl) (by decide) ?_
    refine lv_aload_n hx hb dX5_now_78 rfl (lv_at hl 0 rfl) ?_
    refine x_callV (As := []) (rest := []) ⟨hx, hb, hml, hown, hts⟩ (kX5_loved r ik tn j T B (by omega)) (cwV 0 hts gX5_now_X5_loved rfl rfl rfl ykVX5_loved ⟨Nat.le_of_ble_eq_true rfl, Nat.le_of_ble_eq_true rfl⟩) hP hK hD hS 0 4 rfl rfl rfl [0, 1] rfl (by decide) (fun _ => rfl) (fun _ => wRo r ik tn j ++ (wA cI (r 1) 100 T ++ (wA cI (r 2) 100 K ++ (wA cI (r 3) 100 X ++ (wA cI (r 4) 100 Y ++ (wA cI (r 5) 8 (fR F) ++ (wA cI (r 6) 120 TB ++ (wA cI (r 7) 4 (bR SB) ++ (wA cI (r 8) 4 SS ++ (wA cI (r 9) 160 SN)))))))))) (fun _ => rfl) rfl hl.1 rfl (Nat.le_of_ble_eq_true rfl) dX5_now_79 ⟨Nat.le_of_ble_eq_true rfl, Nat.le_of_ble_eq_true rfl⟩ (fun _ H locs _ hP hD hS => ?_)
    refine W.eq (g2 := F0 m 82 ls [.int (iI (lvF T))]) rfl ?_
    exact kend ((lvF T, T, K, ik, SB, SS, SN, tn, TB, F), X, Y, j) hP hS rfl (by unfold m_now nowF; rw [if_pos (by omega)]; subst e_1; rfl) dX5_now_82
theorem ykSX5_ahead : yX5_ahead.cls ≠ "java/lang/invoke/MethodHandle" ∧ yX5_ahead.cls ≠ "java/lang/invoke/VarHandle" ∧ (parseMethodDescriptor yX5_ahead.desc).map (fun d => d.parameters.length) = some 3 := by decide +kernel
theorem ykVX5_ahead : yX5_ahead.cls = RX5 ∧ yX5_ahead.cls ≠ "java/lang/invoke/MethodHandle" ∧ yX5_ahead.cls ≠ "java/lang/invoke/VarHandle" ∧ (parseMethodDescriptor yX5_ahead.desc).map (fun d => d.parameters.length) = some 3 := ⟨rfl, ykSX5_ahead⟩
set_option maxHeartbeats 4000000 in
set_option maxRecDepth 100000 in
theorem kX5_ahead {l : Launch} {D : va_G} {cI cB : ClassId} (r : Nat → Nat) (T K : Tb) (ik : Int) (SB SS SN : Nat → Int) (tn : Int) (TB F : Nat → Int) (X Y : Tb) (j : Nat → Int) (sp wh n : Int) (B : Int) (hG : GI B T K ik SB SS SN tn TB F) (hB : B ≤ 40000) (h_sp : rI sp) (h_wh : rI wh) (h_n : rI n) : Ct l yX5_ahead wsX5_ahead 7 157 D [(cI, .int), (cB, .byte)] [.ref (r 0), .int (iI sp), .int (iI wh), .int (iI n)] (wM cI r (T, K, ik, SB, SS, SN, tn, TB, F) X Y j) (S := (Int × Gs) × Tb × Tb × (Nat → Int)) (fun u => some (.int (iI u.1.1))) (fun u => u.1 = m_ahead sp wh n T K ik SB SS SN tn TB F) (fun u => wM cI r u.1.2 u.2.1 u.2.2.1 u.2.2.2) := by
  refine CtI.of (cc := cX5_ahead) (maxL := 5) (by decide +kernel) rfl (Nat.le_of_ble_eq_true rfl) ?_
  intro pg e s m args below meth c Q A hx hb hml hts hown hP hK hD hS ls hl kend
  have hown : s.vm.findClass RX5 = some m.cls := hown
  have hl : lv_has ls 5 [(0, .ref (r 0)), (1, .int (iI sp)), (2, .int (iI wh)), (3, .int (iI n))] := hl
  obtain ⟨hI, hIK, hik, hSB, hSS, hSN, htn, hTB, hF⟩ := id hG
  have hn := Inv_n hI
  have hdy := Inv_d hI
  have hP : va_P D vwCl (wRo r ik tn j ++ (wA cI (r 1) 100 T ++ (wA cI (r 2) 100 K ++ (wA cI (r 3) 100 X ++ (wA cI (r 4) 100 Y ++ (wA cI (r 5) 8 (fR F) ++ (wA cI (r 6) 120 TB ++ (wA cI (r 7) 4 (bR SB) ++ (wA cI (r 8) 4 SS ++ (wA cI (r 9) 160 SN)))))))))) s.heap := hP
  have hD : va_D A (wRo r ik tn j ++ (wA cI (r 1) 100 T ++ (wA cI (r 2) 100 K ++ (wA cI (r 3) 100 X ++ (wA cI (r 4) 100 Y ++ (wA cI (r 5) 8 (fR F) ++ (wA cI (r 6) 120 TB ++ (wA cI (r 7) 4 (bR SB) ++ (wA cI (r 8) 4 SS ++ (wA cI (r 9) 160 SN)))))))))) := hD
  refine lv_aload_n hx hb dX5_ahead_0 rfl (lv_at hl 0 rfl) ?_
  refine lv_iload_n hx hb dX5_ahead_1 rfl (lv_at hl 1 rfl) ?_
  refine x_callV (As := [.int (iI sp)]) (rest := []) ⟨hx, hb, hml, hown, hts⟩ (kX5_isOne r ik tn j T sp (by omega) (by omega)) (cwV 1 hts gX5_ahead_X5_isOne rfl rfl rfl ykVX5_isOne ⟨Nat.le_of_ble_eq_true rfl, Nat.le_of_ble_eq_true rfl⟩) hP hK hD hS 0 4 rfl rfl rfl [0, 1] rfl (by decide) (fun _ => rfl) (fun _ => wRo r ik tn j ++ (wA cI (r 1) 100 T ++ (wA cI (r 2) 100 K ++ (wA cI (r 3) 100 X ++ (wA cI (r 4) 100 Y ++ (wA cI (r 5) 8 (fR F) ++ (wA cI (r 6) 120 TB ++ (wA cI (r 7) 4 (bR SB) ++ (wA cI (r 8) 4 SS ++ (wA cI (r 9) 160 SN)))))))))) (fun _ => rfl) rfl hl.1 rfl (Nat.le_of_ble_eq_true rfl) dX5_ahead_2 ⟨Nat.le_of_ble_eq_true rfl, Nat.le_of_ble_eq_true rfl⟩ (fun _ H locs _ hP hD hS => ?_)
  refine W.eq (g2 := F0 m 5 ls [.int (iI (b2 (decide (0 ≤ sp ∧ sp < T 0))))]) rfl ?_
  refine x_ifb_eq (tgt := 39) hx hb dX5_ahead_5 (by decide) (fun c_5 => ?_) (fun c_5 => ?_)
  · refine x_iconst hx hb dX5_ahead_39 ?_
    refine lv_istore (lv' := [(4, .int (iI 0)), (0, .ref (r 0)), (1, .int (iI sp)), (2, .int (iI wh)), (3, .int (iI n))]) hx hb dX5_ahead_40 hl (by decide) rfl (fun ls hl => ?_)
    refine lv_iload hx hb dX5_ahead_42 (lv_at hl 0 rfl) ?_
    refine x_if_eq (tgt := 57) hx hb (by decide) dX5_ahead_44 (by decide) (fun c_44 => ?_) (fun c_44 => ?_)
    · refine lv_aload_n hx hb dX5_ahead_57 rfl (lv_at hl 1 rfl) ?_
      refine x_ldc hx hb (-1000001) rfl hown (hts (.constant RX5 37 (-1000001)) (by decide +kernel)) dX5_ahead_58 ?_
      refine x_callV (As := [.int (iI (-1000001))]) (rest := []) ⟨hx, hb, hml, hown, hts⟩ (kX5_finds r ik tn j F (-1000001) 0 (by omega) (by omega)) (cwV 1 hts gX5_ahead_X5_finds rfl rfl rfl ykVX5_finds ⟨Nat.le_of_ble_eq_true rfl, Nat.le_of_ble_eq_true rfl⟩) hP hK hD hS 0 4 rfl rfl rfl [0, 5] rfl (by decide) (fun _ => rfl) (fun _ => wRo r ik tn j ++ (wA cI (r 1) 100 T ++ (wA cI (r 2) 100 K ++ (wA cI (r 3) 100 X ++ (wA cI (r 4) 100 Y ++ (wA cI (r 5) 8 (fR (bmp 0 F)) ++ (wA cI (r 6) 120 TB ++ (wA cI (r 7) 4 (bR SB) ++ (wA cI (r 8) 4 SS ++ (wA cI (r 9) 160 SN)))))))))) (fun _ => rfl) rfl hl.1 rfl (Nat.le_of_ble_eq_true rfl) dX5_ahead_60 ⟨Nat.le_of_ble_eq_true rfl, Nat.le_of_ble_eq_true rfl⟩ (fun _ H locs _ hP hD hS => ?_)
      refine W.eq (g2 := F0 m 63 ls [.int (iI (-1000001))]) rfl ?_
      exact kend (((-1000001), T, K, ik, SB, SS, SN, tn, TB, (bmp 0 F)), X, Y, j) hP hS rfl (if_neg (by omega)).symm dX5_ahead_63
    · exact absurd c_44 (by decide)
  · refine lv_iload_n hx hb dX5_ahead_8 rfl (lv_at hl 2 rfl) ?_
    refine x_iconst hx hb dX5_ahead_9 ?_
    refine x_icmp_eq (tgt := 23) hx hb (by omega) (by decide) dX5_ahead_10 (by decide) (fun c_10 => ?_) (fun c_10 => ?_)
    · refine lv_iload_n hx hb dX5_ahead_23 rfl (lv_at hl 3 rfl) ?_
      refine x_i2l hx hb (by omega) dX5_ahead_24 ?_
      refine x_lconst hx hb 0 rfl dX5_ahead_25 ?_
      refine x_ldc2 hx hb 100 rfl hown (hts (.constantLong RX5 154 (100)) (by decide +kernel)) dX5_ahead_26 ?_
      refine x_callS (As := [.long (lI n), .long (lI 0), .long (lI 100)]) (rest := []) ⟨hx, hb, hml, hown, hts⟩ (kX5_isIn n 0 100 (by omega) (by omega) (by omega)) (va_cwS 3 hts gX5_ahead_X5_isIn rfl rfl rfl ykSX5_isIn ⟨Nat.le_of_ble_eq_true rfl, Nat.le_of_ble_eq_true rfl⟩) hP hK hD hS [] rfl (by decide) (fun _ => rfl) (fun _ => wRo r ik tn j ++ (wA cI (r 1) 100 T ++ (wA cI (r 2) 100 K ++ (wA cI (r 3) 100 X ++ (wA cI (r 4) 100 Y ++ (wA cI (r 5) 8 (fR F) ++ (wA cI (r 6) 120 TB ++ (wA cI (r 7) 4 (bR SB) ++ (wA cI (r 8) 4 SS ++ (wA cI (r 9) 160 SN)))))))))) (fun _ => rfl) rfl hl.1 rfl (Nat.le_of_ble_eq_true rfl) dX5_ahead_29 ⟨Nat.le_of_ble_eq_true rfl, Nat.le_of_ble_eq_true rfl⟩ (fun _ H locs _ hP hD hS => ?_)
      refine W.eq (g2 := F0 m 32 ls [.int (iI (b2 (decide (0 ≤ n ∧ n ≤ 100))))]) rfl ?_
      refine x_ifb_eq (tgt := 39) hx hb dX5_ahead_32 (by decide) (fun c_32 => ?_) (fun c_32 => ?_)
      · refine x_iconst hx hb dX5_ahead_39 ?_
        refine lv_istore (lv' := [(4, .int (iI 0)), (0, .ref (r 0)), (1, .int (iI sp)), (2, .int (iI wh)), (3, .int (iI n))]) hx hb dX5_ahead_40 hl (by decide) rfl (fun ls hl => ?_)
        refine lv_iload hx hb dX5_ahead_42 (lv_at hl 0 rfl) ?_
        refine x_if_eq (tgt := 57) hx hb (by decide) dX5_ahead_44 (by decide) (fun c_44 => ?_) (fun c_44 => ?_)
        · refine lv_aload_n hx hb dX5_ahead_57 rfl (lv_at hl 1 rfl) ?_
          refine x_ldc hx hb (-1000001) rfl hown (hts (.constant RX5 37 (-1000001)) (by decide +kernel)) dX5_ahead_58 ?_
          refine x_callV (As := [.int (iI (-1000001))]) (rest := []) ⟨hx, hb, hml, hown, hts⟩ (kX5_finds r ik tn j F (-1000001) 0 (by omega) (by omega)) (cwV 1 hts gX5_ahead_X5_finds rfl rfl rfl ykVX5_finds ⟨Nat.le_of_ble_eq_true rfl, Nat.le_of_ble_eq_true rfl⟩) hP hK hD hS 0 4 rfl rfl rfl [0, 5] rfl (by decide) (fun _ => rfl) (fun _ => wRo r ik tn j ++ (wA cI (r 1) 100 T ++ (wA cI (r 2) 100 K ++ (wA cI (r 3) 100 X ++ (wA cI (r 4) 100 Y ++ (wA cI (r 5) 8 (fR (bmp 0 F)) ++ (wA cI (r 6) 120 TB ++ (wA cI (r 7) 4 (bR SB) ++ (wA cI (r 8) 4 SS ++ (wA cI (r 9) 160 SN)))))))))) (fun _ => rfl) rfl hl.1 rfl (Nat.le_of_ble_eq_true rfl) dX5_ahead_60 ⟨Nat.le_of_ble_eq_true rfl, Nat.le_of_ble_eq_true rfl⟩ (fun _ H locs _ hP hD hS => ?_)
          refine W.eq (g2 := F0 m 63 ls [.int (iI (-1000001))]) rfl ?_
          exact kend (((-1000001), T, K, ik, SB, SS, SN, tn, TB, (bmp 0 F)), X, Y, j) hP hS rfl (if_neg (by omega)).symm dX5_ahead_63
        · exact absurd c_44 (by decide)
      · refine x_iconst hx hb dX5_ahead_35 ?_
        refine lv_goto (tgt := 40) hx hb dX5_ahead_36 (by decide) ?_
        refine lv_istore (lv' := [(4, .int (iI 1)), (0, .ref (r 0)), (1, .int (iI sp)), (2, .int (iI wh)), (3, .int (iI n))]) hx hb dX5_ahead_40 hl (by decide) rfl (fun ls hl => ?_)
        refine lv_iload hx hb dX5_ahead_42 (lv_at hl 0 rfl) ?_
        refine x_if_eq (tgt := 57) hx hb (by decide) dX5_ahead_44 (by decide) (fun c_44 => ?_) (fun c_44 => ?_)
        · exact absurd c_44 (by decide)
        · obtain ⟨p0, rfl⟩ : ∃ p0 : Nat, sp = (p0 : Int) := ⟨sp.toNat, by omega⟩
          obtain ⟨w0, rfl⟩ : ∃ w0 : Nat, wh = (w0 : Int) := ⟨wh.toNat, by omega⟩
          obtain ⟨n0, rfl⟩ : ∃ n0 : Nat, n = (n0 : Int) := ⟨n.toNat, by omega⟩
          refine lv_aload_n hx hb dX5_ahead_47 rfl (lv_at hl 1 rfl) ?_
          refine lv_iload_n hx hb dX5_ahead_48 rfl (lv_at hl 2 rfl) ?_
          refine lv_iload_n hx hb dX5_ahead_49 rfl (lv_at hl 3 rfl) ?_
          refine lv_iload_n hx hb dX5_ahead_50 rfl (lv_at hl 4 rfl) ?_
          refine x_callV (As := [.int (iI ((p0 : Nat) : Int)), .int (iI ((w0 : Nat) : Int)), .int (iI ((n0 : Nat) : Int))]) (rest := []) ⟨hx, hb, hml, hown, hts⟩ (kX5_then r ik tn j T Y p0 w0 n0 B (by omega) (by omega) (by omega) (by omega) (by omega)) (cwV 3 hts gX5_ahead_X5_then rfl rfl rfl ykVX5_then ⟨Nat.le_of_ble_eq_true rfl, Nat.le_of_ble_eq_true rfl⟩) hP hK hD hS 0 4 rfl rfl rfl [0, 1, 4] rfl (by decide) (fun _ => rfl) (fun u => wRo r ik tn u ++ (wA cI (r 1) 100 T ++ (wA cI (r 2) 100 K ++ (wA cI (r 3) 100 X ++ (wA cI (r 4) 100 T ++ (wA cI (r 5) 8 (fR F) ++ (wA cI (r 6) 120 TB ++ (wA cI (r 7) 4 (bR SB) ++ (wA cI (r 8) 4 SS ++ (wA cI (r 9) 160 SN)))))))))) (fun _ => rfl) rfl hl.1 rfl (Nat.le_of_ble_eq_true rfl) dX5_ahead_51 ⟨Nat.le_of_ble_eq_true rfl, Nat.le_of_ble_eq_true rfl⟩ (fun u2 H locs hp3 hP hD hS => ?_)
          obtain ⟨j11, rfl⟩ : ∃ z, z = u2 := ⟨_, rfl⟩
          have hP : va_P D vwCl (wRo r ik tn j11 ++ (wA cI (r 1) 100 T ++ (wA cI (r 2) 100 K ++ (wA cI (r 3) 100 X ++ (wA cI (r 4) 100 T ++ (wA cI (r 5) 8 (fR F) ++ (wA cI (r 6) 120 TB ++ (wA cI (r 7) 4 (bR SB) ++ (wA cI (r 8) 4 SS ++ (wA cI (r 9) 160 SN)))))))))) H := hP
          have hD : va_D A (wRo r ik tn j11 ++ (wA cI (r 1) 100 T ++ (wA cI (r 2) 100 K ++ (wA cI (r 3) 100 X ++ (wA cI (r 4) 100 T ++ (wA cI (r 5) 8 (fR F) ++ (wA cI (r 6) 120 TB ++ (wA cI (r 7) 4 (bR SB) ++ (wA cI (r 8) 4 SS ++ (wA cI (r 9) 160 SN)))))))))) := hD
          refine W.eq (g2 := F0 m 54 ls [.int (iI (thF T p0 w0 n0))]) rfl ?_
          refine lv_goto (tgt := 63) hx hb dX5_ahead_54 (by decide) ?_
          exact kend ((thF T p0 w0 n0, T, K, ik, SB, SS, SN, tn, TB, F), X, T, j11) hP hS rfl (by unfold m_ahead; rw [if_pos (by omega)]; simp only [Int.toNat_natCast]; rw [th_tr (by omega)] <;> rfl) dX5_ahead_63
    · refine lv_iload_n hx hb dX5_ahead_13 rfl (lv_at hl 2 rfl) ?_
      refine x_iconst hx hb dX5_ahead_14 ?_
      refine x_icmp_eq (tgt := 23) hx hb (by omega) (by decide) dX5_ahead_15 (by decide) (fun c_15 => ?_) (fun c_15 => ?_)
      · refine lv_iload_n hx hb dX5_ahead_23 rfl (lv_at hl 3 rfl) ?_
        refine x_i2l hx hb (by omega) dX5_ahead_24 ?_
        refine x_lconst hx hb 0 rfl dX5_ahead_25 ?_
        refine x_ldc2 hx hb 100 rfl hown (hts (.constantLong RX5 154 (100)) (by decide +kernel)) dX5_ahead_26 ?_
        refine x_callS (As := [.long (lI n), .long (lI 0), .long (lI 100)]) (rest := []) ⟨hx, hb, hml, hown, hts⟩ (kX5_isIn n 0 100 (by omega) (by omega) (by omega)) (va_cwS 3 hts gX5_ahead_X5_isIn rfl rfl rfl ykSX5_isIn ⟨Nat.le_of_ble_eq_true rfl, Nat.le_of_ble_eq_true rfl⟩) hP hK hD hS [] rfl (by decide) (fun _ => rfl) (fun _ => wRo r ik tn j ++ (wA cI (r 1) 100 T ++ (wA cI (r 2) 100 K ++ (wA cI (r 3) 100 X ++ (wA cI (r 4) 100 Y ++ (wA cI (r 5) 8 (fR F) ++ (wA cI (r 6) 120 TB ++ (wA cI (r 7) 4 (bR SB) ++ (wA cI (r 8) 4 SS ++ (wA cI (r 9) 160 SN)))))))))) (fun _ => rfl) rfl hl.1 rfl (Nat.le_of_ble_eq_true rfl) dX5_ahead_29 ⟨Nat.le_of_ble_eq_true rfl, Nat.le_of_ble_eq_true rfl⟩ (fun _ H locs _ hP hD hS => ?_)
        refine W.eq (g2 := F0 m 32 ls [.int (iI (b2 (decide (0 ≤ n ∧ n ≤ 100))))]) rfl ?_
        refine x_ifb_eq (tgt := 39) hx hb dX5_ahead_32 (by decide) (fun c_32 => ?_) (fun c_32 => ?_)
        · refine x_iconst hx hb dX5_ahead_39 ?_
          refine lv_istore (lv' := [(4, .int (iI 0)), (0, .ref (r 0)), (1, .int (iI sp)), (2, .int (iI wh)), (3, .int (iI n))]) hx hb dX5_ahead_40 hl (by decide) rfl (fun ls hl => ?_)
          refine lv_iload hx hb dX5_ahead_42 (lv_at hl 0 rfl) ?_
          refine x_if_eq (tgt := 57) hx hb (by decide) dX5_ahead_44 (by decide) (fun c_44 => ?_) (fun c_44 => ?_)
          · refine lv_aload_n hx hb dX5_ahead_57 rfl (lv_at hl 1 rfl) ?_
            refine x_ldc hx hb (-1000001) rfl hown (hts (.constant RX5 37 (-1000001)) (by decide +kernel)) dX5_ahead_58 ?_
            refine x_callV (As := [.int (iI (-1000001))]) (rest := []) ⟨hx, hb, hml, hown, hts⟩ (kX5_finds r ik tn j F (-1000001) 0 (by omega) (by omega)) (cwV 1 hts gX5_ahead_X5_finds rfl rfl rfl ykVX5_finds ⟨Nat.le_of_ble_eq_true rfl, Nat.le_of_ble_eq_true rfl⟩) hP hK hD hS 0 4 rfl rfl rfl [0, 5] rfl (by decide) (fun _ => rfl) (fun _ => wRo r ik tn j ++ (wA cI (r 1) 100 T ++ (wA cI (r 2) 100 K ++ (wA cI (r 3) 100 X ++ (wA cI (r 4) 100 Y ++ (wA cI (r 5) 8 (fR (bmp 0 F)) ++ (wA cI (r 6) 120 TB ++ (wA cI (r 7) 4 (bR SB) ++ (wA cI (r 8) 4 SS ++ (wA cI (r 9) 160 SN)))))))))) (fun _ => rfl) rfl hl.1 rfl (Nat.le_of_ble_eq_true rfl) dX5_ahead_60 ⟨Nat.le_of_ble_eq_true rfl, Nat.le_of_ble_eq_true rfl⟩ (fun _ H locs _ hP hD hS => ?_)
            refine W.eq (g2 := F0 m 63 ls [.int (iI (-1000001))]) rfl ?_
            exact kend (((-1000001), T, K, ik, SB, SS, SN, tn, TB, (bmp 0 F)), X, Y, j) hP hS rfl (if_neg (by omega)).symm dX5_ahead_63
          · exact absurd c_44 (by decide)
        · refine x_iconst hx hb dX5_ahead_35 ?_
          refine lv_goto (tgt := 40) hx hb dX5_ahead_36 (by decide) ?_
          refine lv_istore (lv' := [(4, .int (iI 1)), (0, .ref (r 0)), (1, .int (iI sp)), (2, .int (iI wh)), (3, .int (iI n))]) hx hb dX5_ahead_40 hl (by decide) rfl (fun ls hl => ?_)
          refine lv_iload hx hb dX5_ahead_42 (lv_at hl 0 rfl) ?_
          refine x_if_eq (tgt := 57) hx hb (by decide) dX5_ahead_44 (by decide) (fun c_44 => ?_) (fun c_44 => ?_)
          · exact absurd c_44 (by decide)
          · obtain ⟨p0, rfl⟩ : ∃ p0 : Nat, sp = (p0 : Int) := ⟨sp.toNat, by omega⟩
            obtain ⟨w0, rfl⟩ : ∃ w0 : Nat, wh = (w0 : Int) := ⟨wh.toNat, by omega⟩
            obtain ⟨n0, rfl⟩ : ∃ n0 : Nat, n = (n0 : Int) := ⟨n.toNat, by omega⟩
            refine lv_aload_n hx hb dX5_ahead_47 rfl (lv_at hl 1 rfl) ?_
            refine lv_iload_n hx hb dX5_ahead_48 rfl (lv_at hl 2 rfl) ?_
            refine lv_iload_n hx hb dX5_ahead_49 rfl (lv_at hl 3 rfl) ?_
            refine lv_iload_n hx hb dX5_ahead_50 rfl (lv_at hl 4 rfl) ?_
            refine x_callV (As := [.int (iI ((p0 : Nat) : Int)), .int (iI ((w0 : Nat) : Int)), .int (iI ((n0 : Nat) : Int))]) (rest := []) ⟨hx, hb, hml, hown, hts⟩ (kX5_then r ik tn j T Y p0 w0 n0 B (by omega) (by omega) (by omega) (by omega) (by omega)) (cwV 3 hts gX5_ahead_X5_then rfl rfl rfl ykVX5_then ⟨Nat.le_of_ble_eq_true rfl, Nat.le_of_ble_eq_true rfl⟩) hP hK hD hS 0 4 rfl rfl rfl [0, 1, 4] rfl (by decide) (fun _ => rfl) (fun u => wRo r ik tn u ++ (wA cI (r 1) 100 T ++ (wA cI (r 2) 100 K ++ (wA cI (r 3) 100 X ++ (wA cI (r 4) 100 T ++ (wA cI (r 5) 8 (fR F) ++ (wA cI (r 6) 120 TB ++ (wA cI (r 7) 4 (bR SB) ++ (wA cI (r 8) 4 SS ++ (wA cI (r 9) 160 SN)))))))))) (fun _ => rfl) rfl hl.1 rfl (Nat.le_of_ble_eq_true rfl) dX5_ahead_51 ⟨Nat.le_of_ble_eq_true rfl, Nat.le_of_ble_eq_true rfl⟩ (fun u5 H locs hp6 hP hD hS => ?_)
            obtain ⟨j14, rfl⟩ : ∃ z, z = u5 := ⟨_, rfl⟩
            have hP : va_P D vwCl (wRo r ik tn j14 ++ (wA cI (r 1) 100 T ++ (wA cI (r 2) 100 K ++ (wA cI (r 3) 100 X ++ (wA cI (r 4) 100 T ++ (wA cI (r 5) 8 (fR F) ++ (wA cI (r 6) 120 TB ++ (wA cI (r 7) 4 (bR SB) ++ (wA cI (r 8) 4 SS ++ (wA cI (r 9) 160 SN)))))))))) H := hP
            have hD : va_D A (wRo r ik tn j14 ++ (wA cI (r 1) 100 T ++ (wA cI (r 2) 100 K ++ (wA cI (r 3) 100 X ++ (wA cI (r 4) 100 T ++ (wA cI (r 5) 8 (fR F) ++ (wA cI (r 6) 120 TB ++ (wA cI (r 7) 4 (bR SB) ++ (wA cI (r 8) 4 SS ++ (wA cI (r 9) 160 SN)))))))))) := hD
            refine W.eq (g2 := F0 m 54 ls [.int (iI (thF T p0 w0 n0))]) rfl ?_
            refine lv_goto (tgt := 63) hx hb dX5_ahead_54 (by decide) ?_
            exact kend ((thF T p0 w0 n0, T, K, ik, SB, SS, SN, tn, TB, F), X, T, j14) hP hS rfl (by unfold m_ahead; rw [if_pos (by omega)]; simp only [Int.toNat_natCast]; rw [th_tr (by omega)] <;> rfl) dX5_ahead_63
      · refine lv_iload_n hx hb dX5_ahead_18 rfl (lv_at hl 2 rfl) ?_
        refine x_iconst hx hb dX5_ahead_19 ?_
        refine x_icmp_ne (tgt := 39) hx hb (by omega) (by decide) dX5_ahead_20 (by decide) (fun c_20 => ?_) (fun c_20 => ?_)
        · refine x_iconst hx hb dX5_ahead_39 ?_
          refine lv_istore (lv' := [(4, .int (iI 0)), (0, .ref (r 0)), (1, .int (iI sp)), (2, .int (iI wh)), (3, .int (iI n))]) hx hb dX5_ahead_40 hl (by decide) rfl (fun ls hl => ?_)
          refine lv_iload hx hb dX5_ahead_42 (lv_at hl 0 rfl) ?_
          refine x_if_eq (tgt := 57) hx hb (by decide) dX5_ahead_44 (by decide) (fun c_44 => ?_) (fun c_44 => ?_)
          · refine lv_aload_n hx hb dX5_ahead_57 rfl (lv_at hl 1 rfl) ?_
            refine x_ldc hx hb (-1000001) rfl hown (hts (.constant RX5 37 (-1000001)) (by decide +kernel)) dX5_ahead_58 ?_
            refine x_callV (As := [.int (iI (-1000001))]) (rest := []) ⟨hx, hb, hml, hown, hts⟩ (kX5_finds r ik tn j F (-1000001) 0 (by omega) (by omega)) (cwV 1 hts gX5_ahead_X5_finds rfl rfl rfl ykVX5_finds ⟨Nat.le_of_ble_eq_true rfl, Nat.le_of_ble_eq_true rfl⟩) hP hK hD hS 0 4 rfl rfl rfl [0, 5] rfl (by decide) (fun _ => rfl) (fun _ => wRo r ik tn j ++ (wA cI (r 1) 100 T ++ (wA cI (r 2) 100 K ++ (wA cI (r 3) 100 X ++ (wA cI (r 4) 100 Y ++ (wA cI (r 5) 8 (fR (bmp 0 F)) ++ (wA cI (r 6) 120 TB ++ (wA cI (r 7) 4 (bR SB) ++ (wA cI (r 8) 4 SS ++ (wA cI (r 9) 160 SN)))))))))) (fun _ => rfl) rfl hl.1 rfl (Nat.le_of_ble_eq_true rfl) dX5_ahead_60 ⟨Nat.le_of_ble_eq_true rfl, Nat.le_of_ble_eq_true rfl⟩ (fun _ H locs _ hP hD hS => ?_)
            refine W.eq (g2 := F0 m 63 ls [.int (iI (-1000001))]) rfl ?_
            exact kend (((-1000001), T, K, ik, SB, SS, SN, tn, TB, (bmp 0 F)), X, Y, j) hP hS rfl (if_neg (by omega)).symm dX5_ahead_63
          · exact absurd c_44 (by decide)
        · refine lv_iload_n hx hb dX5_ahead_23 rfl (lv_at hl 3 rfl) ?_
          refine x_i2l hx hb (by omega) dX5_ahead_24 ?_
          refine x_lconst hx hb 0 rfl dX5_ahead_25 ?_
          refine x_ldc2 hx hb 100 rfl hown (hts (.constantLong RX5 154 (100)) (by decide +kernel)) dX5_ahead_26 ?_
          refine x_callS (As := [.long (lI n), .long (lI 0), .long (lI 100)]) (rest := []) ⟨hx, hb, hml, hown, hts⟩ (kX5_isIn n 0 100 (by omega) (by omega) (by omega)) (va_cwS 3 hts gX5_ahead_X5_isIn rfl rfl rfl ykSX5_isIn ⟨Nat.le_of_ble_eq_true rfl, Nat.le_of_ble_eq_true rfl⟩) hP hK hD hS [] rfl (by decide) (fun _ => rfl) (fun _ => wRo r ik tn j ++ (wA cI (r 1) 100 T ++ (wA cI (r 2) 100 K ++ (wA cI (r 3) 100 X ++ (wA cI (r 4) 100 Y ++ (wA cI (r 5) 8 (fR F) ++ (wA cI (r 6) 120 TB ++ (wA cI (r 7) 4 (bR SB) ++ (wA cI (r 8) 4 SS ++ (wA cI (r 9) 160 SN)))))))))) (fun _ => rfl) rfl hl.1 rfl (Nat.le_of_ble_eq_true rfl) dX5_ahead_29 ⟨Nat.le_of_ble_eq_true rfl, Nat.le_of_ble_eq_true rfl⟩ (fun _ H locs _ hP hD hS => ?_)
          refine W.eq (g2 := F0 m 32 ls [.int (iI (b2 (decide (0 ≤ n ∧ n ≤ 100))))]) rfl ?_
          refine x_ifb_eq (tgt := 39) hx hb dX5_ahead_32 (by decide) (fun c_32 => ?_) (fun c_32 => ?_)
          · refine x_iconst hx hb dX5_ahead_39 ?_
            refine lv_istore (lv' := [(4, .int (iI 0)), (0, .ref (r 0)), (1, .int (iI sp)), (2, .int (iI wh)), (3, .int (iI n))]) hx hb dX5_ahead_40 hl (by decide) rfl (fun ls hl => ?_)
            refine lv_iload hx hb dX5_ahead_42 (lv_at hl 0 rfl) ?_
            refine x_if_eq (tgt := 57) hx hb (by decide) dX5_ahead_44 (by decide) (fun c_44 => ?_) (fun c_44 => ?_)
            · refine lv_aload_n hx hb dX5_ahead_57 rfl (lv_at hl 1 rfl) ?_
              refine x_ldc hx hb (-1000001) rfl hown (hts (.constant RX5 37 (-1000001)) (by decide +kernel)) dX5_ahead_58 ?_
              refine x_callV (As := [.int (iI (-1000001))]) (rest := []) ⟨hx, hb, hml, hown, hts⟩ (kX5_finds r ik tn j F (-1000001) 0 (by omega) (by omega)) (cwV 1 hts gX5_ahead_X5_finds rfl rfl rfl ykVX5_finds ⟨Nat.le_of_ble_eq_true rfl, Nat.le_of_ble_eq_true rfl⟩) hP hK hD hS 0 4 rfl rfl rfl [0, 5] rfl (by decide) (fun _ => rfl) (fun _ => wRo r ik tn j ++ (wA cI (r 1) 100 T ++ (wA cI (r 2) 100 K ++ (wA cI (r 3) 100 X ++ (wA cI (r 4) 100 Y ++ (wA cI (r 5) 8 (fR (bmp 0 F)) ++ (wA cI (r 6) 120 TB ++ (wA cI (r 7) 4 (bR SB) ++ (wA cI (r 8) 4 SS ++ (wA cI (r 9) 160 SN)))))))))) (fun _ => rfl) rfl hl.1 rfl (Nat.le_of_ble_eq_true rfl) dX5_ahead_60 ⟨Nat.le_of_ble_eq_true rfl, Nat.le_of_ble_eq_true rfl⟩ (fun _ H locs _ hP hD hS => ?_)
              refine W.eq (g2 := F0 m 63 ls [.int (iI (-1000001))]) rfl ?_
              exact kend (((-1000001), T, K, ik, SB, SS, SN, tn, TB, (bmp 0 F)), X, Y, j) hP hS rfl (if_neg (by omega)).symm dX5_ahead_63
            · exact absurd c_44 (by decide)
          · refine x_iconst hx hb dX5_ahead_35 ?_
            refine lv_goto (tgt := 40) hx hb dX5_ahead_36 (by decide) ?_
            refine lv_istore (lv' := [(4, .int (iI 1)), (0, .ref (r 0)), (1, .int (iI sp)), (2, .int (iI wh)), (3, .int (iI n))]) hx hb dX5_ahead_40 hl (by decide) rfl (fun ls hl => ?_)
            refine lv_iload hx hb dX5_ahead_42 (lv_at hl 0 rfl) ?_
            refine x_if_eq (tgt := 57) hx hb (by decide) dX5_ahead_44 (by decide) (fun c_44 => ?_) (fun c_44 => ?_)
            · exact absurd c_44 (by decide)
            · obtain ⟨p0, rfl⟩ : ∃ p0 : Nat, sp = (p0 : Int) := ⟨sp.toNat, by omega⟩
              obtain ⟨w0, rfl⟩ : ∃ w0 : Nat, wh = (w0 : Int) := ⟨wh.toNat, by omega⟩
              obtain ⟨n0, rfl⟩ : ∃ n0 : Nat, n = (n0 : Int) := ⟨n.toNat, by omega⟩
              refine lv_aload_n hx hb dX5_ahead_47 rfl (lv_at hl 1 rfl) ?_
              refine lv_iload_n hx hb dX5_ahead_48 rfl (lv_at hl 2 rfl) ?_
              refine lv_iload_n hx hb dX5_ahead_49 rfl (lv_at hl 3 rfl) ?_
              refine lv_iload_n hx hb dX5_ahead_50 rfl (lv_at hl 4 rfl) ?_
              refine x_callV (As := [.int (iI ((p0 : Nat) : Int)), .int (iI ((w0 : Nat) : Int)), .int (iI ((n0 : Nat) : Int))]) (rest := []) ⟨hx, hb, hml, hown, hts⟩ (kX5_then r ik tn j T Y p0 w0 n0 B (by omega) (by omega) (by omega) (by omega) (by omega)) (cwV 3 hts gX5_ahead_X5_then rfl rfl rfl ykVX5_then ⟨Nat.le_of_ble_eq_true rfl, Nat.le_of_ble_eq_true rfl⟩) hP hK hD hS 0 4 rfl rfl rfl [0, 1, 4] rfl (by decide) (fun _ => rfl) (fun u => wRo r ik tn u ++ (wA cI (r 1) 100 T ++ (wA cI (r 2) 100 K ++ (wA cI (r 3) 100 X ++ (wA cI (r 4) 100 T ++ (wA cI (r 5) 8 (fR F) ++ (wA cI (r 6) 120 TB ++ (wA cI (r 7) 4 (bR SB) ++ (wA cI (r 8) 4 SS ++ (wA cI (r 9) 160 SN)))))))))) (fun _ => rfl) rfl hl.1 rfl (Nat.le_of_ble_eq_true rfl) dX5_ahead_51 ⟨Nat.le_of_ble_eq_true rfl, Nat.le_of_ble_eq_true rfl⟩ (fun u8 H locs hp9 hP hD hS => ?_)
              obtain ⟨j17, rfl⟩ : ∃ z, z = u8 := ⟨_, rfl⟩
              have hP : va_P D vwCl (wRo r ik tn j17 ++ (wA cI (r 1) 100 T ++ (wA cI (r 2) 100 K ++ (wA cI (r 3) 100 X ++ (wA cI (r 4) 100 T ++ (wA cI (r 5) 8 (fR F) ++ (wA cI (r 6) 120 TB ++ (wA cI (r 7) 4 (bR SB) ++ (wA cI (r 8) 4 SS ++ (wA cI (r 9) 160 SN)))))))))) H := hP
              have hD : va_D A (wRo r ik tn j17 ++ (wA cI (r 1) 100 T ++ (wA cI (r 2) 100 K ++ (wA cI (r 3) 100 X ++ (wA cI (r 4) 100 T ++ (wA cI (r 5) 8 (fR F) ++ (wA cI (r 6) 120 TB ++ (wA cI (r 7) 4 (bR SB) ++ (wA cI (r 8) 4 SS ++ (wA cI (r 9) 160 SN)))))))))) := hD
              refine W.eq (g2 := F0 m 54 ls [.int (iI (thF T p0 w0 n0))]) rfl ?_
              refine lv_goto (tgt := 63) hx hb dX5_ahead_54 (by decide) ?_
              exact kend ((thF T p0 w0 n0, T, K, ik, SB, SS, SN, tn, TB, F), X, T, j17) hP hS rfl (by unfold m_ahead; rw [if_pos (by omega)]; simp only [Int.toNat_natCast]; rw [th_tr (by omega)] <;> rfl) dX5_ahead_63
theorem ykSX5_served : yX5_served.cls ≠ "java/lang/invoke/MethodHandle" ∧ yX5_served.cls ≠ "java/lang/invoke/VarHandle" ∧ (parseMethodDescriptor yX5_served.desc).map (fun d => d.parameters.length) = some 3 := by decide +kernel
theorem ykVX5_served : yX5_served.cls = RX5 ∧ yX5_served.cls ≠ "java/lang/invoke/MethodHandle" ∧ yX5_served.cls ≠ "java/lang/invoke/VarHandle" ∧ (parseMethodDescriptor yX5_served.desc).map (fun d => d.parameters.length) = some 3 := ⟨rfl, ykSX5_served⟩
set_option maxRecDepth 20000 in
theorem iT_X5_served_X5 : ∀ w ∈ u_ws RX5 TX5 18, w ∈ wsX5_served := by decide +kernel
set_option maxHeartbeats 4000000 in
set_option maxRecDepth 100000 in
theorem kX5_served {l : Launch} {D : va_G} {cI cB : ClassId} (r : Nat → Nat) (T K : Tb) (ik : Int) (SB SS SN : Nat → Int) (tn : Int) (TB F : Nat → Int) (X Y : Tb) (j : Nat → Int) (sp t n : Int) (B : Int) (hG : GI B T K ik SB SS SN tn TB F) (hB : B ≤ 40000) (h_sp : rI sp) (h_t : rI t) (h_n : rI n) : Ct l yX5_served wsX5_served 6 133 D [(cI, .int), (cB, .byte)] [.ref (r 0), .int (iI sp), .int (iI t), .int (iI n)] (wM cI r (T, K, ik, SB, SS, SN, tn, TB, F) X Y j) (S := (Int × Gs) × Tb × Tb × (Nat → Int)) (fun u => some (.int (iI u.1.1))) (fun u => u.1 = m_served sp t n T K ik SB SS SN tn TB F) (fun u => wM cI r u.1.2 u.2.1 u.2.2.1 u.2.2.2) := by
  refine CtI.of (cc := cX5_served) (maxL := 5) (by decide +kernel) rfl (Nat.le_of_ble_eq_true rfl) ?_
  intro pg e s m args below meth c Q A hx hb hml hts hown hP hK hD hS ls hl kend
  have hown : s.vm.findClass RX5 = some m.cls := hown
  have hl : lv_has ls 5 [(0, .ref (r 0)), (1, .int (iI sp)), (2, .int (iI t)), (3, .int (iI n))] := hl
  obtain ⟨hI, hIK, hik, hSB, hSS, hSN, htn, hTB, hF⟩ := id hG
  have hn := Inv_n hI
  have hdy := Inv_d hI
  have hP : va_P D vwCl (wRo r ik tn j ++ (wA cI (r 1) 100 T ++ (wA cI (r 2) 100 K ++ (wA cI (r 3) 100 X ++ (wA cI (r 4) 100 Y ++ (wA cI (r 5) 8 (fR F) ++ (wA cI (r 6) 120 TB ++ (wA cI (r 7) 4 (bR SB) ++ (wA cI (r 8) 4 SS ++ (wA cI (r 9) 160 SN)))))))))) s.heap := hP
  have hD : va_D A (wRo r ik tn j ++ (wA cI (r 1) 100 T ++ (wA cI (r 2) 100 K ++ (wA cI (r 3) 100 X ++ (wA cI (r 4) 100 Y ++ (wA cI (r 5) 8 (fR F) ++ (wA cI (r 6) 120 TB ++ (wA cI (r 7) 4 (bR SB) ++ (wA cI (r 8) 4 SS ++ (wA cI (r 9) 160 SN)))))))))) := hD
  refine lv_aload_n hx hb dX5_served_0 rfl (lv_at hl 0 rfl) ?_
  refine lv_iload_n hx hb dX5_served_1 rfl (lv_at hl 1 rfl) ?_
  refine x_callV (As := [.int (iI sp)]) (rest := []) ⟨hx, hb, hml, hown, hts⟩ (kX5_isOne r ik tn j T sp (by omega) (by omega)) (cwV 1 hts gX5_served_X5_isOne rfl rfl rfl ykVX5_isOne ⟨Nat.le_of_ble_eq_true rfl, Nat.le_of_ble_eq_true rfl⟩) hP hK hD hS 0 4 rfl rfl rfl [0, 1] rfl (by decide) (fun _ => rfl) (fun _ => wRo r ik tn j ++ (wA cI (r 1) 100 T ++ (wA cI (r 2) 100 K ++ (wA cI (r 3) 100 X ++ (wA cI (r 4) 100 Y ++ (wA cI (r 5) 8 (fR F) ++ (wA cI (r 6) 120 TB ++ (wA cI (r 7) 4 (bR SB) ++ (wA cI (r 8) 4 SS ++ (wA cI (r 9) 160 SN)))))))))) (fun _ => rfl) rfl hl.1 rfl (Nat.le_of_ble_eq_true rfl) dX5_served_2 ⟨Nat.le_of_ble_eq_true rfl, Nat.le_of_ble_eq_true rfl⟩ (fun _ H locs _ hP hD hS => ?_)
  refine W.eq (g2 := F0 m 5 ls [.int (iI (b2 (decide (0 ≤ sp ∧ sp < T 0))))]) rfl ?_
  refine x_ifb_eq (tgt := 27) hx hb dX5_served_5 (by decide) (fun c_5 => ?_) (fun c_5 => ?_)
  · refine lv_aload_n hx hb dX5_served_27 rfl (lv_at hl 0 rfl) ?_
    refine x_ldc hx hb (-1000001) rfl hown (hts (.constant RX5 37 (-1000001)) (by decide +kernel)) dX5_served_28 ?_
    refine x_callV (As := [.int (iI (-1000001))]) (rest := []) ⟨hx, hb, hml, hown, hts⟩ (kX5_finds r ik tn j F (-1000001) 0 (by omega) (by omega)) (cwV 1 hts gX5_served_X5_finds rfl rfl rfl ykVX5_finds ⟨Nat.le_of_ble_eq_true rfl, Nat.le_of_ble_eq_true rfl⟩) hP hK hD hS 0 4 rfl rfl rfl [0, 5] rfl (by decide) (fun _ => rfl) (fun _ => wRo r ik tn j ++ (wA cI (r 1) 100 T ++ (wA cI (r 2) 100 K ++ (wA cI (r 3) 100 X ++ (wA cI (r 4) 100 Y ++ (wA cI (r 5) 8 (fR (bmp 0 F)) ++ (wA cI (r 6) 120 TB ++ (wA cI (r 7) 4 (bR SB) ++ (wA cI (r 8) 4 SS ++ (wA cI (r 9) 160 SN)))))))))) (fun _ => rfl) rfl hl.1 rfl (Nat.le_of_ble_eq_true rfl) dX5_served_30 ⟨Nat.le_of_ble_eq_true rfl, Nat.le_of_ble_eq_true rfl⟩ (fun _ H locs _ hP hD hS => ?_)
    refine W.eq (g2 := F0 m 33 ls [.int (iI (-1000001))]) rfl ?_
    exact kend (((-1000001), T, K, ik, SB, SS, SN, tn, TB, (bmp 0 F)), X, Y, j) hP hS rfl (if_neg (by omega)).symm dX5_served_33
  · refine lv_iload_n hx hb dX5_served_8 rfl (lv_at hl 2 rfl) ?_
    refine x_callS (As := [.int (iI t)]) (rest := []) ⟨hx, hb, hml, hown, hts⟩ (kX5_isTaste t (by omega)) (va_cwS 1 hts gX5_served_X5_isTaste rfl rfl rfl ykSX5_isTaste ⟨Nat.le_of_ble_eq_true rfl, Nat.le_of_ble_eq_true rfl⟩) hP hK hD hS [] rfl (by decide) (fun _ => rfl) (fun _ => wRo r ik tn j ++ (wA cI (r 1) 100 T ++ (wA cI (r 2) 100 K ++ (wA cI (r 3) 100 X ++ (wA cI (r 4) 100 Y ++ (wA cI (r 5) 8 (fR F) ++ (wA cI (r 6) 120 TB ++ (wA cI (r 7) 4 (bR SB) ++ (wA cI (r 8) 4 SS ++ (wA cI (r 9) 160 SN)))))))))) (fun _ => rfl) rfl hl.1 rfl (Nat.le_of_ble_eq_true rfl) dX5_served_9 ⟨Nat.le_of_ble_eq_true rfl, Nat.le_of_ble_eq_true rfl⟩ (fun _ H locs _ hP hD hS => ?_)
    refine W.eq (g2 := F0 m 12 ls [.int (iI (b2 (decide (0 ≤ t ∧ t < 6))))]) rfl ?_
    refine x_ifb_eq (tgt := 27) hx hb dX5_served_12 (by decide) (fun c_12 => ?_) (fun c_12 => ?_)
    · refine lv_aload_n hx hb dX5_served_27 rfl (lv_at hl 0 rfl) ?_
      refine x_ldc hx hb (-1000001) rfl hown (hts (.constant RX5 37 (-1000001)) (by decide +kernel)) dX5_served_28 ?_
      refine x_callV (As := [.int (iI (-1000001))]) (rest := []) ⟨hx, hb, hml, hown, hts⟩ (kX5_finds r ik tn j F (-1000001) 0 (by omega) (by omega)) (cwV 1 hts gX5_served_X5_finds rfl rfl rfl ykVX5_finds ⟨Nat.le_of_ble_eq_true rfl, Nat.le_of_ble_eq_true rfl⟩) hP hK hD hS 0 4 rfl rfl rfl [0, 5] rfl (by decide) (fun _ => rfl) (fun _ => wRo r ik tn j ++ (wA cI (r 1) 100 T ++ (wA cI (r 2) 100 K ++ (wA cI (r 3) 100 X ++ (wA cI (r 4) 100 Y ++ (wA cI (r 5) 8 (fR (bmp 0 F)) ++ (wA cI (r 6) 120 TB ++ (wA cI (r 7) 4 (bR SB) ++ (wA cI (r 8) 4 SS ++ (wA cI (r 9) 160 SN)))))))))) (fun _ => rfl) rfl hl.1 rfl (Nat.le_of_ble_eq_true rfl) dX5_served_30 ⟨Nat.le_of_ble_eq_true rfl, Nat.le_of_ble_eq_true rfl⟩ (fun _ H locs _ hP hD hS => ?_)
      refine W.eq (g2 := F0 m 33 ls [.int (iI (-1000001))]) rfl ?_
      exact kend (((-1000001), T, K, ik, SB, SS, SN, tn, TB, (bmp 0 F)), X, Y, j) hP hS rfl (if_neg (by omega)).symm dX5_served_33
    · refine lv_iload_n hx hb dX5_served_15 rfl (lv_at hl 3 rfl) ?_
      refine x_i2l hx hb (by omega) dX5_served_16 ?_
      refine x_lconst hx hb 0 rfl dX5_served_17 ?_
      refine x_ldc2 hx hb 100 rfl hown (hts (.constantLong RX5 154 (100)) (by decide +kernel)) dX5_served_18 ?_
      refine x_callS (As := [.long (lI n), .long (lI 0), .long (lI 100)]) (rest := []) ⟨hx, hb, hml, hown, hts⟩ (kX5_isIn n 0 100 (by omega) (by omega) (by omega)) (va_cwS 3 hts gX5_served_X5_isIn rfl rfl rfl ykSX5_isIn ⟨Nat.le_of_ble_eq_true rfl, Nat.le_of_ble_eq_true rfl⟩) hP hK hD hS [] rfl (by decide) (fun _ => rfl) (fun _ => wRo r ik tn j ++ (wA cI (r 1) 100 T ++ (wA cI (r 2) 100 K ++ (wA cI (r 3) 100 X ++ (wA cI (r 4) 100 Y ++ (wA cI (r 5) 8 (fR F) ++ (wA cI (r 6) 120 TB ++ (wA cI (r 7) 4 (bR SB) ++ (wA cI (r 8) 4 SS ++ (wA cI (r 9) 160 SN)))))))))) (fun _ => rfl) rfl hl.1 rfl (Nat.le_of_ble_eq_true rfl) dX5_served_21 ⟨Nat.le_of_ble_eq_true rfl, Nat.le_of_ble_eq_true rfl⟩ (fun _ H locs _ hP hD hS => ?_)
      refine W.eq (g2 := F0 m 24 ls [.int (iI (b2 (decide (0 ≤ n ∧ n ≤ 100))))]) rfl ?_
      refine x_ifb_ne (tgt := 34) hx hb dX5_served_24 (by decide) (fun c_24 => ?_) (fun c_24 => ?_)
      · obtain ⟨p0, rfl⟩ : ∃ p0 : Nat, sp = (p0 : Int) := ⟨sp.toNat, by omega⟩
        obtain ⟨t0, rfl⟩ : ∃ t0 : Nat, t = (t0 : Int) := ⟨t.toNat, by omega⟩
        obtain ⟨n0, rfl⟩ : ∃ n0 : Nat, n = (n0 : Int) := ⟨n.toNat, by omega⟩
        refine lv_aload_n hx hb dX5_served_34 rfl (lv_at hl 0 rfl) ?_
        refine va_get (D := D) (ci := 4) (v := .ref (r 1)) (C := RX5) (T := TX5) (N := 18) hx hb hts (iT_X5_served_X5) hown hK hP 0 rfl rfl 0 (by decide) (hts (.fieldLink RX5 7 "WordSupperModel" "s" "[I") (by decide +kernel)) (fun _ h9 => h9) rfl dX5_served_35 ?_
        refine lv_aload_n hx hb dX5_served_38 rfl (lv_at hl 0 rfl) ?_
        refine va_get (D := D) (ci := 4) (v := .ref (r 4)) (C := RX5) (T := TX5) (N := 18) hx hb hts (iT_X5_served_X5) hown hK hP 0 rfl rfl 3 (by decide) (hts (.fieldLink RX5 19 "WordSupperModel" "aside" "[I") (by decide +kernel)) (fun _ h9 => h9) rfl dX5_served_39 ?_
        refine x_callS (As := [.ref (r 1), .ref (r 4)]) (rest := []) ⟨hx, hb, hml, hown, hts⟩ (kX5_copyRow (r 1) T (r 4) Y ) (va_cwS 2 hts gX5_served_X5_copyRow rfl rfl rfl ykSX5_copyRow ⟨Nat.le_of_ble_eq_true rfl, Nat.le_of_ble_eq_true rfl⟩) hP hK hD hS [1, 4] rfl (by decide) (fun _ => rfl) (fun _ => wRo r ik tn j ++ (wA cI (r 1) 100 T ++ (wA cI (r 2) 100 K ++ (wA cI (r 3) 100 X ++ (wA cI (r 4) 100 T ++ (wA cI (r 5) 8 (fR F) ++ (wA cI (r 6) 120 TB ++ (wA cI (r 7) 4 (bR SB) ++ (wA cI (r 8) 4 SS ++ (wA cI (r 9) 160 SN)))))))))) (fun _ => rfl) rfl hl.1 rfl (Nat.le_of_ble_eq_true rfl) dX5_served_42 ⟨Nat.le_of_ble_eq_true rfl, Nat.le_of_ble_eq_true rfl⟩ (fun _ H locs _ hP hD hS => ?_)
        refine W.eq (g2 := F0 m 45 ls []) rfl ?_
        refine lv_aload_n hx hb dX5_served_45 rfl (lv_at hl 0 rfl) ?_
        refine lv_iload_n hx hb dX5_served_46 rfl (lv_at hl 3 rfl) ?_
        refine x_callV (As := [.int (iI ((n0 : Nat) : Int))]) (rest := []) ⟨hx, hb, hml, hown, hts⟩ (kX5_goes r ik tn j T n0 B (by omega) (by omega) (by omega)) (cwV 1 hts gX5_served_X5_goes rfl rfl rfl ykVX5_goes ⟨Nat.le_of_ble_eq_true rfl, Nat.le_of_ble_eq_true rfl⟩) hP hK hD hS 0 4 rfl rfl rfl [0, 1] rfl (by decide) (fun _ => rfl) (fun u => wRo r ik tn u.2 ++ (wA cI (r 1) 100 u.1 ++ (wA cI (r 2) 100 K ++ (wA cI (r 3) 100 X ++ (wA cI (r 4) 100 T ++ (wA cI (r 5) 8 (fR F) ++ (wA cI (r 6) 120 TB ++ (wA cI (r 7) 4 (bR SB) ++ (wA cI (r 8) 4 SS ++ (wA cI (r 9) 160 SN)))))))))) (fun _ => rfl) rfl hl.1 rfl (Nat.le_of_ble_eq_true rfl) dX5_served_47 ⟨Nat.le_of_ble_eq_true rfl, Nat.le_of_ble_eq_true rfl⟩ (fun u3 H locs hp4 hP hD hS => ?_)
        obtain ⟨T11, j12⟩ := u3
        replace hp4 : T11 = dsF 0 n0 T := hp4
        have hP : va_P D vwCl (wRo r ik tn j12 ++ (wA cI (r 1) 100 T11 ++ (wA cI (r 2) 100 K ++ (wA cI (r 3) 100 X ++ (wA cI (r 4) 100 T ++ (wA cI (r 5) 8 (fR F) ++ (wA cI (r 6) 120 TB ++ (wA cI (r 7) 4 (bR SB) ++ (wA cI (r 8) 4 SS ++ (wA cI (r 9) 160 SN)))))))))) H := hP
        have hD : va_D A (wRo r ik tn j12 ++ (wA cI (r 1) 100 T11 ++ (wA cI (r 2) 100 K ++ (wA cI (r 3) 100 X ++ (wA cI (r 4) 100 T ++ (wA cI (r 5) 8 (fR F) ++ (wA cI (r 6) 120 TB ++ (wA cI (r 7) 4 (bR SB) ++ (wA cI (r 8) 4 SS ++ (wA cI (r 9) 160 SN)))))))))) := hD
        refine W.eq (g2 := F0 m 50 ls []) rfl ?_
        have iV : Inv (B + (n0 : Int)) T11 := by rw [hp4]; exact (dsF_I n0 hI).1
        have nV : 0 ≤ T11 0 ∧ T11 0 ≤ 8 := Inv_n iV
        have nV0 : T11 0 = T 0 := by rw [hp4]; exact (dsF_I n0 hI).2.1
        refine lv_aload_n hx hb dX5_served_50 rfl (lv_at hl 0 rfl) ?_
        refine lv_iload_n hx hb dX5_served_51 rfl (lv_at hl 1 rfl) ?_
        refine x_iconst hx hb dX5_served_52 ?_
        refine lv_iload_n hx hb dX5_served_53 rfl (lv_at hl 2 rfl) ?_
        refine x_iadd hx hb dX5_served_54 ?_
        refine x_topi ((4 + t0 : Nat) : Int) (by omega) ?_
        refine x_callV (As := [.int (iI ((p0 : Nat) : Int)), .int (iI ((4 + t0 : Nat) : Int))]) (rest := []) ⟨hx, hb, hml, hown, hts⟩ (kX5_its r ik tn j12 T11 p0 (4 + t0) (by omega) (by omega)) (cwV 2 hts gX5_served_X5_its rfl rfl rfl ykVX5_its ⟨Nat.le_of_ble_eq_true rfl, Nat.le_of_ble_eq_true rfl⟩) hP hK hD hS 0 4 rfl rfl rfl [0, 1] rfl (by decide) (fun _ => rfl) (fun _ => wRo r ik tn j12 ++ (wA cI (r 1) 100 T11 ++ (wA cI (r 2) 100 K ++ (wA cI (r 3) 100 X ++ (wA cI (r 4) 100 T ++ (wA cI (r 5) 8 (fR F) ++ (wA cI (r 6) 120 TB ++ (wA cI (r 7) 4 (bR SB) ++ (wA cI (r 8) 4 SS ++ (wA cI (r 9) 160 SN)))))))))) (fun _ => rfl) rfl hl.1 rfl (Nat.le_of_ble_eq_true rfl) dX5_served_55 ⟨Nat.le_of_ble_eq_true rfl, Nat.le_of_ble_eq_true rfl⟩ (fun _ H locs _ hP hD hS => ?_)
        refine W.eq (g2 := F0 m 58 ls [.int (iI (T11 (cx p0 (4 + t0))))]) rfl ?_
        refine lv_istore (lv' := [(4, .int (iI (T11 (cx p0 (4 + t0))))), (0, .ref (r 0)), (1, .int (iI ((p0 : Nat) : Int))), (2, .int (iI ((t0 : Nat) : Int))), (3, .int (iI ((n0 : Nat) : Int)))]) hx hb dX5_served_58 hl (by decide) rfl (fun ls hl => ?_)
        refine lv_aload_n hx hb dX5_served_60 rfl (lv_at hl 1 rfl) ?_
        refine va_get (D := D) (ci := 4) (v := .ref (r 4)) (C := RX5) (T := TX5) (N := 18) hx hb hts (iT_X5_served_X5) hown hK hP 0 rfl rfl 3 (by decide) (hts (.fieldLink RX5 19 "WordSupperModel" "aside" "[I") (by decide +kernel)) (fun _ h9 => h9) rfl dX5_served_61 ?_
        refine lv_aload_n hx hb dX5_served_64 rfl (lv_at hl 1 rfl) ?_
        refine va_get (D := D) (ci := 4) (v := .ref (r 1)) (C := RX5) (T := TX5) (N := 18) hx hb hts (iT_X5_served_X5) hown hK hP 0 rfl rfl 0 (by decide) (hts (.fieldLink RX5 7 "WordSupperModel" "s" "[I") (by decide +kernel)) (fun _ h9 => h9) rfl dX5_served_65 ?_
        refine x_callS (As := [.ref (r 4), .ref (r 1)]) (rest := []) ⟨hx, hb, hml, hown, hts⟩ (kX5_copyRow (r 4) T (r 1) T11 ) (va_cwS 2 hts gX5_served_X5_copyRow rfl rfl rfl ykSX5_copyRow ⟨Nat.le_of_ble_eq_true rfl, Nat.le_of_ble_eq_true rfl⟩) hP hK hD hS [4, 1] rfl (by decide) (fun _ => rfl) (fun _ => wRo r ik tn j12 ++ (wA cI (r 1) 100 T ++ (wA cI (r 2) 100 K ++ (wA cI (r 3) 100 X ++ (wA cI (r 4) 100 T ++ (wA cI (r 5) 8 (fR F) ++ (wA cI (r 6) 120 TB ++ (wA cI (r 7) 4 (bR SB) ++ (wA cI (r 8) 4 SS ++ (wA cI (r 9) 160 SN)))))))))) (fun _ => rfl) rfl hl.1 rfl (Nat.le_of_ble_eq_true rfl) dX5_served_68 ⟨Nat.le_of_ble_eq_true rfl, Nat.le_of_ble_eq_true rfl⟩ (fun _ H locs _ hP hD hS => ?_)
        refine W.eq (g2 := F0 m 71 ls []) rfl ?_
        refine lv_iload hx hb dX5_served_71 (lv_at hl 0 rfl) ?_
        exact kend ((T11 (cx p0 (4 + t0)), T, K, ik, SB, SS, SN, tn, TB, F), X, T, j12) hP hS rfl (by rw [hp4]; exact (if_pos (by omega)).symm) dX5_served_73
      · refine lv_aload_n hx hb dX5_served_27 rfl (lv_at hl 0 rfl) ?_
        refine x_ldc hx hb (-1000001) rfl hown (hts (.constant RX5 37 (-1000001)) (by decide +kernel)) dX5_served_28 ?_
        refine x_callV (As := [.int (iI (-1000001))]) (rest := []) ⟨hx, hb, hml, hown, hts⟩ (kX5_finds r ik tn j F (-1000001) 0 (by omega) (by omega)) (cwV 1 hts gX5_served_X5_finds rfl rfl rfl ykVX5_finds ⟨Nat.le_of_ble_eq_true rfl, Nat.le_of_ble_eq_true rfl⟩) hP hK hD hS 0 4 rfl rfl rfl [0, 5] rfl (by decide) (fun _ => rfl) (fun _ => wRo r ik tn j ++ (wA cI (r 1) 100 T ++ (wA cI (r 2) 100 K ++ (wA cI (r 3) 100 X ++ (wA cI (r 4) 100 Y ++ (wA cI (r 5) 8 (fR (bmp 0 F)) ++ (wA cI (r 6) 120 TB ++ (wA cI (r 7) 4 (bR SB) ++ (wA cI (r 8) 4 SS ++ (wA cI (r 9) 160 SN)))))))))) (fun _ => rfl) rfl hl.1 rfl (Nat.le_of_ble_eq_true rfl) dX5_served_30 ⟨Nat.le_of_ble_eq_true rfl, Nat.le_of_ble_eq_true rfl⟩ (fun _ H locs _ hP hD hS => ?_)
        refine W.eq (g2 := F0 m 33 ls [.int (iI (-1000001))]) rfl ?_
        exact kend (((-1000001), T, K, ik, SB, SS, SN, tn, TB, (bmp 0 F)), X, Y, j) hP hS rfl (if_neg (by omega)).symm dX5_served_33
theorem ykSX5_clean : yX5_clean.cls ≠ "java/lang/invoke/MethodHandle" ∧ yX5_clean.cls ≠ "java/lang/invoke/VarHandle" ∧ (parseMethodDescriptor yX5_clean.desc).map (fun d => d.parameters.length) = some 1 := by decide +kernel
theorem ykVX5_clean : yX5_clean.cls = RX5 ∧ yX5_clean.cls ≠ "java/lang/invoke/MethodHandle" ∧ yX5_clean.cls ≠ "java/lang/invoke/VarHandle" ∧ (parseMethodDescriptor yX5_clean.desc).map (fun d => d.parameters.length) = some 1 := ⟨rfl, ykSX5_clean⟩
set_option maxRecDepth 20000 in
theorem iT_X5_clean_X5 : ∀ w ∈ u_ws RX5 TX5 18, w ∈ wsX5_clean := by decide +kernel
set_option maxHeartbeats 4000000 in
set_option maxRecDepth 100000 in
theorem kX5_clean {l : Launch} {D : va_G} {cI cB : ClassId} (r : Nat → Nat) (T K : Tb) (ik : Int) (SB SS SN : Nat → Int) (tn : Int) (TB F : Nat → Int) (X Y : Tb) (j : Nat → Int) (sp : Int) (B : Int) (hG : GI B T K ik SB SS SN tn TB F) (hB : B ≤ 40000) (h_sp : rI sp) : Ct l yX5_clean wsX5_clean 5 111 D [(cI, .int), (cB, .byte)] [.ref (r 0), .int (iI sp)] (wM cI r (T, K, ik, SB, SS, SN, tn, TB, F) X Y j) (S := (Int × Gs) × Tb × Tb × (Nat → Int)) (fun u => some (.int (iI u.1.1))) (fun u => u.1 = m_clean sp T K ik SB SS SN tn TB F) (fun u => wM cI r u.1.2 u.2.1 u.2.2.1 u.2.2.2) := by
  refine CtI.of (cc := cX5_clean) (maxL := 3) (by decide +kernel) rfl (Nat.le_of_ble_eq_true rfl) ?_
  intro pg e s m args below meth c Q A hx hb hml hts hown hP hK hD hS ls hl kend
  have hown : s.vm.findClass RX5 = some m.cls := hown
  have hl : lv_has ls 3 [(0, .ref (r 0)), (1, .int (iI sp))] := hl
  obtain ⟨hI, hIK, hik, hSB, hSS, hSN, htn, hTB, hF⟩ := id hG
  have hn := Inv_n hI
  have hdy := Inv_d hI
  have hP : va_P D vwCl (wRo r ik tn j ++ (wA cI (r 1) 100 T ++ (wA cI (r 2) 100 K ++ (wA cI (r 3) 100 X ++ (wA cI (r 4) 100 Y ++ (wA cI (r 5) 8 (fR F) ++ (wA cI (r 6) 120 TB ++ (wA cI (r 7) 4 (bR SB) ++ (wA cI (r 8) 4 SS ++ (wA cI (r 9) 160 SN)))))))))) s.heap := hP
  have hD : va_D A (wRo r ik tn j ++ (wA cI (r 1) 100 T ++ (wA cI (r 2) 100 K ++ (wA cI (r 3) 100 X ++ (wA cI (r 4) 100 Y ++ (wA cI (r 5) 8 (fR F) ++ (wA cI (r 6) 120 TB ++ (wA cI (r 7) 4 (bR SB) ++ (wA cI (r 8) 4 SS ++ (wA cI (r 9) 160 SN)))))))))) := hD
  refine lv_aload_n hx hb dX5_clean_0 rfl (lv_at hl 0 rfl) ?_
  refine lv_iload_n hx hb dX5_clean_1 rfl (lv_at hl 1 rfl) ?_
  refine x_callV (As := [.int (iI sp)]) (rest := []) ⟨hx, hb, hml, hown, hts⟩ (kX5_isOne r ik tn j T sp (by omega) (by omega)) (cwV 1 hts gX5_clean_X5_isOne rfl rfl rfl ykVX5_isOne ⟨Nat.le_of_ble_eq_true rfl, Nat.le_of_ble_eq_true rfl⟩) hP hK hD hS 0 4 rfl rfl rfl [0, 1] rfl (by decide) (fun _ => rfl) (fun _ => wRo r ik tn j ++ (wA cI (r 1) 100 T ++ (wA cI (r 2) 100 K ++ (wA cI (r 3) 100 X ++ (wA cI (r 4) 100 Y ++ (wA cI (r 5) 8 (fR F) ++ (wA cI (r 6) 120 TB ++ (wA cI (r 7) 4 (bR SB) ++ (wA cI (r 8) 4 SS ++ (wA cI (r 9) 160 SN)))))))))) (fun _ => rfl) rfl hl.1 rfl (Nat.le_of_ble_eq_true rfl) dX5_clean_2 ⟨Nat.le_of_ble_eq_true rfl, Nat.le_of_ble_eq_true rfl⟩ (fun _ H locs _ hP hD hS => ?_)
  refine W.eq (g2 := F0 m 5 ls [.int (iI (b2 (decide (0 ≤ sp ∧ sp < T 0))))]) rfl ?_
  refine x_ifb_ne (tgt := 15) hx hb dX5_clean_5 (by decide) (fun c_5 => ?_) (fun c_5 => ?_)
  · obtain ⟨p0, rfl⟩ : ∃ p0 : Nat, sp = (p0 : Int) := ⟨sp.toNat, by omega⟩
    refine lv_aload_n hx hb dX5_clean_15 rfl (lv_at hl 0 rfl) ?_
    refine va_get (D := D) (ci := 4) (v := .ref (r 1)) (C := RX5) (T := TX5) (N := 18) hx hb hts (iT_X5_clean_X5) hown hK hP 0 rfl rfl 0 (by decide) (hts (.fieldLink RX5 7 "WordSupperModel" "s" "[I") (by decide +kernel)) (fun _ h9 => h9) rfl dX5_clean_16 ?_
    refine lv_aload_n hx hb dX5_clean_19 rfl (lv_at hl 0 rfl) ?_
    refine va_get (D := D) (ci := 4) (v := .ref (r 4)) (C := RX5) (T := TX5) (N := 18) hx hb hts (iT_X5_clean_X5) hown hK hP 0 rfl rfl 3 (by decide) (hts (.fieldLink RX5 19 "WordSupperModel" "aside" "[I") (by decide +kernel)) (fun _ h9 => h9) rfl dX5_clean_20 ?_
    refine x_callS (As := [.ref (r 1), .ref (r 4)]) (rest := []) ⟨hx, hb, hml, hown, hts⟩ (kX5_copyRow (r 1) T (r 4) Y ) (va_cwS 2 hts gX5_clean_X5_copyRow rfl rfl rfl ykSX5_copyRow ⟨Nat.le_of_ble_eq_true rfl, Nat.le_of_ble_eq_true rfl⟩) hP hK hD hS [1, 4] rfl (by decide) (fun _ => rfl) (fun _ => wRo r ik tn j ++ (wA cI (r 1) 100 T ++ (wA cI (r 2) 100 K ++ (wA cI (r 3) 100 X ++ (wA cI (r 4) 100 T ++ (wA cI (r 5) 8 (fR F) ++ (wA cI (r 6) 120 TB ++ (wA cI (r 7) 4 (bR SB) ++ (wA cI (r 8) 4 SS ++ (wA cI (r 9) 160 SN)))))))))) (fun _ => rfl) rfl hl.1 rfl (Nat.le_of_ble_eq_true rfl) dX5_clean_23 ⟨Nat.le_of_ble_eq_true rfl, Nat.le_of_ble_eq_true rfl⟩ (fun _ H locs _ hP hD hS => ?_)
    refine W.eq (g2 := F0 m 26 ls []) rfl ?_
    refine x_iconst hx hb dX5_clean_26 ?_
    refine lv_istore_n (lv' := [(2, .int (iI 0)), (0, .ref (r 0)), (1, .int (iI ((p0 : Nat) : Int)))]) hx hb dX5_clean_27 rfl hl (by decide) rfl (fun ls hl => ?_)
    have L28 : ∀ (k t : Nat) (Tt : Tb) (jt : Nat → Int) (H : Heap) (locs : List Loc) (ls : Array Slot), t + k = 101 → (fdF (fdB p0 5 0 0) k t Tt = fdF (fdB p0 5 0 0) 101 0 T) → (Inv (B + (t : Int)) Tt) → (Tt 0 = T 0) → va_P D vwCl (wRo r ik tn jt ++ (wA cI (r 1) 100 Tt ++ (wA cI (r 2) 100 K ++ (wA cI (r 3) 100 X ++ (wA cI (r 4) 100 T ++ (wA cI (r 5) 8 (fR F) ++ (wA cI (r 6) 120 TB ++ (wA cI (r 7) 4 (bR SB) ++ (wA cI (r 8) 4 SS ++ (wA cI (r 9) 160 SN)))))))))) H → va_D A (wRo r ik tn jt ++ (wA cI (r 1) 100 Tt ++ (wA cI (r 2) 100 K ++ (wA cI (r 3) 100 X ++ (wA cI (r 4) 100 T ++ (wA cI (r 5) 8 (fR F) ++ (wA cI (r 6) 120 TB ++ (wA cI (r 7) 4 (bR SB) ++ (wA cI (r 8) 4 SS ++ (wA cI (r 9) 160 SN)))))))))) → va_S A s.heap H locs → lv_has ls 3 [(0, .ref (r 0)), (1, .int (iI ((p0 : Nat) : Int))), (2, .int (iI ((t : Nat) : Int)))] → W pg l e { frames := 5, cells := 0, slots := 0, locals := 111 } s m args below meth c H locs 0 0 Q (F0 m 28 ls []) := by
      intro k
      induction k with
      | zero =>
        intro t Tt jt H locs ls hkt hr hi0 h0 hP hD hS hl
        refine lv_iload_n hx hb dX5_clean_28 rfl (lv_at hl 2 rfl) ?_
        refine x_bipush hx hb dX5_clean_29 (by decide) ?_
        refine x_icmp_gt (tgt := 53) hx hb (by omega) (by decide) dX5_clean_31 (by decide) (fun c_31 => ?_) (fun c_31 => ?_)
        · refine lv_aload_n hx hb dX5_clean_53 rfl (lv_at hl 0 rfl) ?_
          refine va_get (D := D) (ci := 4) (v := .ref (r 4)) (C := RX5) (T := TX5) (N := 18) hx hb hts (iT_X5_clean_X5) hown hK hP 0 rfl rfl 3 (by decide) (hts (.fieldLink RX5 19 "WordSupperModel" "aside" "[I") (by decide +kernel)) (fun _ h9 => h9) rfl dX5_clean_54 ?_
          refine lv_aload_n hx hb dX5_clean_57 rfl (lv_at hl 0 rfl) ?_
          refine va_get (D := D) (ci := 4) (v := .ref (r 1)) (C := RX5) (T := TX5) (N := 18) hx hb hts (iT_X5_clean_X5) hown hK hP 0 rfl rfl 0 (by decide) (hts (.fieldLink RX5 7 "WordSupperModel" "s" "[I") (by decide +kernel)) (fun _ h9 => h9) rfl dX5_clean_58 ?_
          refine x_callS (As := [.ref (r 4), .ref (r 1)]) (rest := []) ⟨hx, hb, hml, hown, hts⟩ (kX5_copyRow (r 4) T (r 1) Tt ) (va_cwS 2 hts gX5_clean_X5_copyRow rfl rfl rfl ykSX5_copyRow ⟨Nat.le_of_ble_eq_true rfl, Nat.le_of_ble_eq_true rfl⟩) hP hK hD hS [4, 1] rfl (by decide) (fun _ => rfl) (fun _ => wRo r ik tn jt ++ (wA cI (r 1) 100 T ++ (wA cI (r 2) 100 K ++ (wA cI (r 3) 100 X ++ (wA cI (r 4) 100 T ++ (wA cI (r 5) 8 (fR F) ++ (wA cI (r 6) 120 TB ++ (wA cI (r 7) 4 (bR SB) ++ (wA cI (r 8) 4 SS ++ (wA cI (r 9) 160 SN)))))))))) (fun _ => rfl) rfl hl.1 rfl (Nat.le_of_ble_eq_true rfl) dX5_clean_61 ⟨Nat.le_of_ble_eq_true rfl, Nat.le_of_ble_eq_true rfl⟩ (fun _ H locs _ hP hD hS => ?_)
          refine W.eq (g2 := F0 m 64 ls []) rfl ?_
          refine lv_iload_n hx hb dX5_clean_64 rfl (lv_at hl 2 rfl) ?_
          refine x_bipush hx hb dX5_clean_65 (by decide) ?_
          refine x_icmp_gt (tgt := 74) hx hb (by omega) (by decide) dX5_clean_67 (by decide) (fun c_67 => ?_) (fun c_67 => ?_)
          · refine lv_aload_n hx hb dX5_clean_74 rfl (lv_at hl 0 rfl) ?_
            refine x_ldc hx hb (-1000004) rfl hown (hts (.constant RX5 38 (-1000004)) (by decide +kernel)) dX5_clean_75 ?_
            refine x_callV (As := [.int (iI (-1000004))]) (rest := []) ⟨hx, hb, hml, hown, hts⟩ (kX5_finds r ik tn jt F (-1000004) 3 (by omega) (by omega)) (cwV 1 hts gX5_clean_X5_finds rfl rfl rfl ykVX5_finds ⟨Nat.le_of_ble_eq_true rfl, Nat.le_of_ble_eq_true rfl⟩) hP hK hD hS 0 4 rfl rfl rfl [0, 5] rfl (by decide) (fun _ => rfl) (fun _ => wRo r ik tn jt ++ (wA cI (r 1) 100 T ++ (wA cI (r 2) 100 K ++ (wA cI (r 3) 100 X ++ (wA cI (r 4) 100 T ++ (wA cI (r 5) 8 (fR (bmp 3 F)) ++ (wA cI (r 6) 120 TB ++ (wA cI (r 7) 4 (bR SB) ++ (wA cI (r 8) 4 SS ++ (wA cI (r 9) 160 SN)))))))))) (fun _ => rfl) rfl hl.1 rfl (Nat.le_of_ble_eq_true rfl) dX5_clean_77 ⟨Nat.le_of_ble_eq_true rfl, Nat.le_of_ble_eq_true rfl⟩ (fun _ H locs _ hP hD hS => ?_)
            refine W.eq (g2 := F0 m 80 ls [.int (iI (-1000004))]) rfl ?_
            exact kend (((-1000004), T, K, ik, SB, SS, SN, tn, TB, (bmp 3 F)), X, T, jt) hP hS rfl (by unfold m_clean; rw [if_pos (by omega)]; simp only [Int.toNat_natCast]; exact fdR_of (by rw [← hr, fdF, if_neg (by omega)])) dX5_clean_80
          · exfalso; omega
        · exfalso; omega
      | succ k ih =>
        intro t Tt jt H locs ls hkt hr hi0 h0 hP hD hS hl
        refine lv_iload_n hx hb dX5_clean_28 rfl (lv_at hl 2 rfl) ?_
        refine x_bipush hx hb dX5_clean_29 (by decide) ?_
        refine x_icmp_gt (tgt := 53) hx hb (by omega) (by decide) dX5_clean_31 (by decide) (fun c_31 => ?_) (fun c_31 => ?_)
        · exfalso; omega
        · have hv9 := Inv_lf (p := p0) hi0 (by omega)
          have tr9 : trF Tt p0 5 = lfF Tt p0 := rfl
          refine lv_aload_n hx hb dX5_clean_34 rfl (lv_at hl 0 rfl) ?_
          refine lv_iload_n hx hb dX5_clean_35 rfl (lv_at hl 1 rfl) ?_
          refine x_callV (As := [.int (iI ((p0 : Nat) : Int))]) (rest := []) ⟨hx, hb, hml, hown, hts⟩ (kX5_left r ik tn jt Tt p0 (by omega)) (cwV 1 hts gX5_clean_X5_left rfl rfl rfl ykVX5_left ⟨Nat.le_of_ble_eq_true rfl, Nat.le_of_ble_eq_true rfl⟩) hP hK hD hS 0 4 rfl rfl rfl [0, 1] rfl (by decide) (fun _ => rfl) (fun _ => wRo r ik tn jt ++ (wA cI (r 1) 100 Tt ++ (wA cI (r 2) 100 K ++ (wA cI (r 3) 100 X ++ (wA cI (r 4) 100 T ++ (wA cI (r 5) 8 (fR F) ++ (wA cI (r 6) 120 TB ++ (wA cI (r 7) 4 (bR SB) ++ (wA cI (r 8) 4 SS ++ (wA cI (r 9) 160 SN)))))))))) (fun _ => rfl) rfl hl.1 rfl (Nat.le_of_ble_eq_true rfl) dX5_clean_36 ⟨Nat.le_of_ble_eq_true rfl, Nat.le_of_ble_eq_true rfl⟩ (fun _ H locs _ hP hD hS => ?_)
          refine W.eq (g2 := F0 m 39 ls [.int (iI (lfF Tt p0))]) rfl ?_
          refine x_if_le (tgt := 53) hx hb (by omega) dX5_clean_39 (by decide) (fun c_39 => ?_) (fun c_39 => ?_)
          · refine lv_aload_n hx hb dX5_clean_53 rfl (lv_at hl 0 rfl) ?_
            refine va_get (D := D) (ci := 4) (v := .ref (r 4)) (C := RX5) (T := TX5) (N := 18) hx hb hts (iT_X5_clean_X5) hown hK hP 0 rfl rfl 3 (by decide) (hts (.fieldLink RX5 19 "WordSupperModel" "aside" "[I") (by decide +kernel)) (fun _ h9 => h9) rfl dX5_clean_54 ?_
            refine lv_aload_n hx hb dX5_clean_57 rfl (lv_at hl 0 rfl) ?_
            refine va_get (D := D) (ci := 4) (v := .ref (r 1)) (C := RX5) (T := TX5) (N := 18) hx hb hts (iT_X5_clean_X5) hown hK hP 0 rfl rfl 0 (by decide) (hts (.fieldLink RX5 7 "WordSupperModel" "s" "[I") (by decide +kernel)) (fun _ h9 => h9) rfl dX5_clean_58 ?_
            refine x_callS (As := [.ref (r 4), .ref (r 1)]) (rest := []) ⟨hx, hb, hml, hown, hts⟩ (kX5_copyRow (r 4) T (r 1) Tt ) (va_cwS 2 hts gX5_clean_X5_copyRow rfl rfl rfl ykSX5_copyRow ⟨Nat.le_of_ble_eq_true rfl, Nat.le_of_ble_eq_true rfl⟩) hP hK hD hS [4, 1] rfl (by decide) (fun _ => rfl) (fun _ => wRo r ik tn jt ++ (wA cI (r 1) 100 T ++ (wA cI (r 2) 100 K ++ (wA cI (r 3) 100 X ++ (wA cI (r 4) 100 T ++ (wA cI (r 5) 8 (fR F) ++ (wA cI (r 6) 120 TB ++ (wA cI (r 7) 4 (bR SB) ++ (wA cI (r 8) 4 SS ++ (wA cI (r 9) 160 SN)))))))))) (fun _ => rfl) rfl hl.1 rfl (Nat.le_of_ble_eq_true rfl) dX5_clean_61 ⟨Nat.le_of_ble_eq_true rfl, Nat.le_of_ble_eq_true rfl⟩ (fun _ H locs _ hP hD hS => ?_)
            refine W.eq (g2 := F0 m 64 ls []) rfl ?_
            refine lv_iload_n hx hb dX5_clean_64 rfl (lv_at hl 2 rfl) ?_
            refine x_bipush hx hb dX5_clean_65 (by decide) ?_
            refine x_icmp_gt (tgt := 74) hx hb (by omega) (by decide) dX5_clean_67 (by decide) (fun c_67 => ?_) (fun c_67 => ?_)
            · exfalso; omega
            · refine lv_iload_n hx hb dX5_clean_70 rfl (lv_at hl 2 rfl) ?_
              refine lv_goto (tgt := 80) hx hb dX5_clean_71 (by decide) ?_
              exact kend ((((t : Nat) : Int), T, K, ik, SB, SS, SN, tn, TB, F), X, T, jt) hP hS rfl (by unfold m_clean; rw [if_pos (by omega)]; simp only [Int.toNat_natCast]; exact fdR_of (by rw [← hr, fd_t (fdB_t (show 0 ≤ trF Tt p0 5 ∧ trF Tt p0 5 ≤ 0 by omega)), if_pos (by omega)])) dX5_clean_80
          · refine lv_aload_n hx hb dX5_clean_42 rfl (lv_at hl 0 rfl) ?_
            refine x_iconst hx hb dX5_clean_43 ?_
            refine x_callV (As := [.int (iI 0)]) (rest := []) ⟨hx, hb, hml, hown, hts⟩ (kX5_dayBut r ik tn jt Tt 0 (B + (t : Int)) hi0 (by omega) (by decide)) (cwV 1 hts gX5_clean_X5_dayBut rfl rfl rfl ykVX5_dayBut ⟨Nat.le_of_ble_eq_true rfl, Nat.le_of_ble_eq_true rfl⟩) hP hK hD hS 0 4 rfl rfl rfl [0, 1] rfl (by decide) (fun _ => rfl) (fun u => wRo r ik tn u.2 ++ (wA cI (r 1) 100 u.1 ++ (wA cI (r 2) 100 K ++ (wA cI (r 3) 100 X ++ (wA cI (r 4) 100 T ++ (wA cI (r 5) 8 (fR F) ++ (wA cI (r 6) 120 TB ++ (wA cI (r 7) 4 (bR SB) ++ (wA cI (r 8) 4 SS ++ (wA cI (r 9) 160 SN)))))))))) (fun _ => rfl) rfl hl.1 rfl (Nat.le_of_ble_eq_true rfl) dX5_clean_44 ⟨Nat.le_of_ble_eq_true rfl, Nat.le_of_ble_eq_true rfl⟩ (fun u3 H locs hp4 hP hD hS => ?_)
            obtain ⟨T11, j12⟩ := u3
            replace hp4 : T11 = dyF 0 Tt := hp4
            have hP : va_P D vwCl (wRo r ik tn j12 ++ (wA cI (r 1) 100 T11 ++ (wA cI (r 2) 100 K ++ (wA cI (r 3) 100 X ++ (wA cI (r 4) 100 T ++ (wA cI (r 5) 8 (fR F) ++ (wA cI (r 6) 120 TB ++ (wA cI (r 7) 4 (bR SB) ++ (wA cI (r 8) 4 SS ++ (wA cI (r 9) 160 SN)))))))))) H := hP
            have hD : va_D A (wRo r ik tn j12 ++ (wA cI (r 1) 100 T11 ++ (wA cI (r 2) 100 K ++ (wA cI (r 3) 100 X ++ (wA cI (r 4) 100 T ++ (wA cI (r 5) 8 (fR F) ++ (wA cI (r 6) 120 TB ++ (wA cI (r 7) 4 (bR SB) ++ (wA cI (r 8) 4 SS ++ (wA cI (r 9) 160 SN)))))))))) := hD
            refine W.eq (g2 := F0 m 47 ls []) rfl ?_
            refine x_iinc hx hb 2 ((t + 1 : Nat) : Int) (by omega) [(2, .int (iI ((t + 1 : Nat) : Int))), (0, .ref (r 0)), (1, .int (iI ((p0 : Nat) : Int)))] dX5_clean_47 hl rfl (by decide) rfl (fun ls hl => ?_)
            refine lv_goto (tgt := 28) hx hb dX5_clean_50 (by decide) ?_
            exact ih (t + 1) T11 j12 _ _ _ (by omega) (by rw [← hr, fd_n (fdB_f (show ¬ (0 ≤ trF Tt p0 5 ∧ trF Tt p0 5 ≤ 0) by omega)), hp4]) (by rw [hp4, show B + ((t + 1 : Nat) : Int) = B + (t : Int) + 1 by omega]; exact (dyF_I hi0).1) (by rw [hp4, (dyF_I hi0).2.1]; exact h0) hP hD hS (lv_sub hl [1, 2, 0] rfl)
    exact L28 101 0 T j _ _ _ (by omega) rfl (by simpa using hI) rfl hP hD hS (lv_sub hl [1, 2, 0] rfl)
  · refine lv_aload_n hx hb dX5_clean_8 rfl (lv_at hl 0 rfl) ?_
    refine x_ldc hx hb (-1000001) rfl hown (hts (.constant RX5 37 (-1000001)) (by decide +kernel)) dX5_clean_9 ?_
    refine x_callV (As := [.int (iI (-1000001))]) (rest := []) ⟨hx, hb, hml, hown, hts⟩ (kX5_finds r ik tn j F (-1000001) 0 (by omega) (by omega)) (cwV 1 hts gX5_clean_X5_finds rfl rfl rfl ykVX5_finds ⟨Nat.le_of_ble_eq_true rfl, Nat.le_of_ble_eq_true rfl⟩) hP hK hD hS 0 4 rfl rfl rfl [0, 5] rfl (by decide) (fun _ => rfl) (fun _ => wRo r ik tn j ++ (wA cI (r 1) 100 T ++ (wA cI (r 2) 100 K ++ (wA cI (r 3) 100 X ++ (wA cI (r 4) 100 Y ++ (wA cI (r 5) 8 (fR (bmp 0 F)) ++ (wA cI (r 6) 120 TB ++ (wA cI (r 7) 4 (bR SB) ++ (wA cI (r 8) 4 SS ++ (wA cI (r 9) 160 SN)))))))))) (fun _ => rfl) rfl hl.1 rfl (Nat.le_of_ble_eq_true rfl) dX5_clean_11 ⟨Nat.le_of_ble_eq_true rfl, Nat.le_of_ble_eq_true rfl⟩ (fun _ H locs _ hP hD hS => ?_)
    refine W.eq (g2 := F0 m 14 ls [.int (iI (-1000001))]) rfl ?_
    exact kend (((-1000001), T, K, ik, SB, SS, SN, tn, TB, (bmp 0 F)), X, Y, j) hP hS rfl (if_neg (by omega)).symm dX5_clean_14
theorem ykSX5_when : yX5_when.cls ≠ "java/lang/invoke/MethodHandle" ∧ yX5_when.cls ≠ "java/lang/invoke/VarHandle" ∧ (parseMethodDescriptor yX5_when.desc).map (fun d => d.parameters.length) = some 2 := by decide +kernel
theorem ykVX5_when : yX5_when.cls = RX5 ∧ yX5_when.cls ≠ "java/lang/invoke/MethodHandle" ∧ yX5_when.cls ≠ "java/lang/invoke/VarHandle" ∧ (parseMethodDescriptor yX5_when.desc).map (fun d => d.parameters.length) = some 2 := ⟨rfl, ykSX5_when⟩
set_option maxRecDepth 20000 in
theorem iT_X5_when_X5 : ∀ w ∈ u_ws RX5 TX5 18, w ∈ wsX5_when := by decide +kernel
set_option maxHeartbeats 4000000 in
set_option maxRecDepth 100000 in
theorem kX5_when {l : Launch} {D : va_G} {cI cB : ClassId} (r : Nat → Nat) (T K : Tb) (ik : Int) (SB SS SN : Nat → Int) (tn : Int) (TB F : Nat → Int) (X Y : Tb) (j : Nat → Int) (sp v : Int) (B : Int) (hG : GI B T K ik SB SS SN tn TB F) (hB : B ≤ 40000) (h_sp : rI sp) (h_v : rI v) : Ct l yX5_when wsX5_when 5 111 D [(cI, .int), (cB, .byte)] [.ref (r 0), .int (iI sp), .int (iI v)] (wM cI r (T, K, ik, SB, SS, SN, tn, TB, F) X Y j) (S := (Int × Gs) × Tb × Tb × (Nat → Int)) (fun u => some (.int (iI u.1.1))) (fun u => u.1 = m_when sp v T K ik SB SS SN tn TB F) (fun u => wM cI r u.1.2 u.2.1 u.2.2.1 u.2.2.2) := by
  refine CtI.of (cc := cX5_when) (maxL := 4) (by decide +kernel) rfl (Nat.le_of_ble_eq_true rfl) ?_
  intro pg e s m args below meth c Q A hx hb hml hts hown hP hK hD hS ls hl kend
  have hown : s.vm.findClass RX5 = some m.cls := hown
  have hl : lv_has ls 4 [(0, .ref (r 0)), (1, .int (iI sp)), (2, .int (iI v))] := hl
  obtain ⟨hI, hIK, hik, hSB, hSS, hSN, htn, hTB, hF⟩ := id hG
  have hn := Inv_n hI
  have hdy := Inv_d hI
  have hP : va_P D vwCl (wRo r ik tn j ++ (wA cI (r 1) 100 T ++ (wA cI (r 2) 100 K ++ (wA cI (r 3) 100 X ++ (wA cI (r 4) 100 Y ++ (wA cI (r 5) 8 (fR F) ++ (wA cI (r 6) 120 TB ++ (wA cI (r 7) 4 (bR SB) ++ (wA cI (r 8) 4 SS ++ (wA cI (r 9) 160 SN)))))))))) s.heap := hP
  have hD : va_D A (wRo r ik tn j ++ (wA cI (r 1) 100 T ++ (wA cI (r 2) 100 K ++ (wA cI (r 3) 100 X ++ (wA cI (r 4) 100 Y ++ (wA cI (r 5) 8 (fR F) ++ (wA cI (r 6) 120 TB ++ (wA cI (r 7) 4 (bR SB) ++ (wA cI (r 8) 4 SS ++ (wA cI (r 9) 160 SN)))))))))) := hD
  refine lv_aload_n hx hb dX5_when_0 rfl (lv_at hl 0 rfl) ?_
  refine lv_iload_n hx hb dX5_when_1 rfl (lv_at hl 1 rfl) ?_
  refine x_callV (As := [.int (iI sp)]) (rest := []) ⟨hx, hb, hml, hown, hts⟩ (kX5_isOne r ik tn j T sp (by omega) (by omega)) (cwV 1 hts gX5_when_X5_isOne rfl rfl rfl ykVX5_isOne ⟨Nat.le_of_ble_eq_true rfl, Nat.le_of_ble_eq_true rfl⟩) hP hK hD hS 0 4 rfl rfl rfl [0, 1] rfl (by decide) (fun _ => rfl) (fun _ => wRo r ik tn j ++ (wA cI (r 1) 100 T ++ (wA cI (r 2) 100 K ++ (wA cI (r 3) 100 X ++ (wA cI (r 4) 100 Y ++ (wA cI (r 5) 8 (fR F) ++ (wA cI (r 6) 120 TB ++ (wA cI (r 7) 4 (bR SB) ++ (wA cI (r 8) 4 SS ++ (wA cI (r 9) 160 SN)))))))))) (fun _ => rfl) rfl hl.1 rfl (Nat.le_of_ble_eq_true rfl) dX5_when_2 ⟨Nat.le_of_ble_eq_true rfl, Nat.le_of_ble_eq_true rfl⟩ (fun _ H locs _ hP hD hS => ?_)
  refine W.eq (g2 := F0 m 5 ls [.int (iI (b2 (decide (0 ≤ sp ∧ sp < T 0))))]) rfl ?_
  refine x_ifb_eq (tgt := 20) hx hb dX5_when_5 (by decide) (fun c_5 => ?_) (fun c_5 => ?_)
  · refine lv_aload_n hx hb dX5_when_20 rfl (lv_at hl 0 rfl) ?_
    refine x_ldc hx hb (-1000001) rfl hown (hts (.constant RX5 37 (-1000001)) (by decide +kernel)) dX5_when_21 ?_
    refine x_callV (As := [.int (iI (-1000001))]) (rest := []) ⟨hx, hb, hml, hown, hts⟩ (kX5_finds r ik tn j F (-1000001) 0 (by omega) (by omega)) (cwV 1 hts gX5_when_X5_finds rfl rfl rfl ykVX5_finds ⟨Nat.le_of_ble_eq_true rfl, Nat.le_of_ble_eq_true rfl⟩) hP hK hD hS 0 4 rfl rfl rfl [0, 5] rfl (by decide) (fun _ => rfl) (fun _ => wRo r ik tn j ++ (wA cI (r 1) 100 T ++ (wA cI (r 2) 100 K ++ (wA cI (r 3) 100 X ++ (wA cI (r 4) 100 Y ++ (wA cI (r 5) 8 (fR (bmp 0 F)) ++ (wA cI (r 6) 120 TB ++ (wA cI (r 7) 4 (bR SB) ++ (wA cI (r 8) 4 SS ++ (wA cI (r 9) 160 SN)))))))))) (fun _ => rfl) rfl hl.1 rfl (Nat.le_of_ble_eq_true rfl) dX5_when_23 ⟨Nat.le_of_ble_eq_true rfl, Nat.le_of_ble_eq_true rfl⟩ (fun _ H locs _ hP hD hS => ?_)
    refine W.eq (g2 := F0 m 26 ls [.int (iI (-1000001))]) rfl ?_
    exact kend (((-1000001), T, K, ik, SB, SS, SN, tn, TB, (bmp 0 F)), X, Y, j) hP hS rfl (if_neg (by omega)).symm dX5_when_26
  · refine lv_iload_n hx hb dX5_when_8 rfl (lv_at hl 2 rfl) ?_
    refine x_i2l hx hb (by omega) dX5_when_9 ?_
    refine x_lconst hx hb 0 rfl dX5_when_10 ?_
    refine x_ldc2 hx hb 5000 rfl hown (hts (.constantLong RX5 160 (5000)) (by decide +kernel)) dX5_when_11 ?_
    refine x_callS (As := [.long (lI v), .long (lI 0), .long (lI 5000)]) (rest := []) ⟨hx, hb, hml, hown, hts⟩ (kX5_isIn v 0 5000 (by omega) (by omega) (by omega)) (va_cwS 3 hts gX5_when_X5_isIn rfl rfl rfl ykSX5_isIn ⟨Nat.le_of_ble_eq_true rfl, Nat.le_of_ble_eq_true rfl⟩) hP hK hD hS [] rfl (by decide) (fun _ => rfl) (fun _ => wRo r ik tn j ++ (wA cI (r 1) 100 T ++ (wA cI (r 2) 100 K ++ (wA cI (r 3) 100 X ++ (wA cI (r 4) 100 Y ++ (wA cI (r 5) 8 (fR F) ++ (wA cI (r 6) 120 TB ++ (wA cI (r 7) 4 (bR SB) ++ (wA cI (r 8) 4 SS ++ (wA cI (r 9) 160 SN)))))))))) (fun _ => rfl) rfl hl.1 rfl (Nat.le_of_ble_eq_true rfl) dX5_when_14 ⟨Nat.le_of_ble_eq_true rfl, Nat.le_of_ble_eq_true rfl⟩ (fun _ H locs _ hP hD hS => ?_)
    refine W.eq (g2 := F0 m 17 ls [.int (iI (b2 (decide (0 ≤ v ∧ v ≤ 5000))))]) rfl ?_
    refine x_ifb_ne (tgt := 27) hx hb dX5_when_17 (by decide) (fun c_17 => ?_) (fun c_17 => ?_)
    · obtain ⟨p0, rfl⟩ : ∃ p0 : Nat, sp = (p0 : Int) := ⟨sp.toNat, by omega⟩
      refine lv_aload_n hx hb dX5_when_27 rfl (lv_at hl 0 rfl) ?_
      refine va_get (D := D) (ci := 4) (v := .ref (r 1)) (C := RX5) (T := TX5) (N := 18) hx hb hts (iT_X5_when_X5) hown hK hP 0 rfl rfl 0 (by decide) (hts (.fieldLink RX5 7 "WordSupperModel" "s" "[I") (by decide +kernel)) (fun _ h9 => h9) rfl dX5_when_28 ?_
      refine lv_aload_n hx hb dX5_when_31 rfl (lv_at hl 0 rfl) ?_
      refine va_get (D := D) (ci := 4) (v := .ref (r 4)) (C := RX5) (T := TX5) (N := 18) hx hb hts (iT_X5_when_X5) hown hK hP 0 rfl rfl 3 (by decide) (hts (.fieldLink RX5 19 "WordSupperModel" "aside" "[I") (by decide +kernel)) (fun _ h9 => h9) rfl dX5_when_32 ?_
      refine x_callS (As := [.ref (r 1), .ref (r 4)]) (rest := []) ⟨hx, hb, hml, hown, hts⟩ (kX5_copyRow (r 1) T (r 4) Y ) (va_cwS 2 hts gX5_when_X5_copyRow rfl rfl rfl ykSX5_copyRow ⟨Nat.le_of_ble_eq_true rfl, Nat.le_of_ble_eq_true rfl⟩) hP hK hD hS [1, 4] rfl (by decide) (fun _ => rfl) (fun _ => wRo r ik tn j ++ (wA cI (r 1) 100 T ++ (wA cI (r 2) 100 K ++ (wA cI (r 3) 100 X ++ (wA cI (r 4) 100 T ++ (wA cI (r 5) 8 (fR F) ++ (wA cI (r 6) 120 TB ++ (wA cI (r 7) 4 (bR SB) ++ (wA cI (r 8) 4 SS ++ (wA cI (r 9) 160 SN)))))))))) (fun _ => rfl) rfl hl.1 rfl (Nat.le_of_ble_eq_true rfl) dX5_when_35 ⟨Nat.le_of_ble_eq_true rfl, Nat.le_of_ble_eq_true rfl⟩ (fun _ H locs _ hP hD hS => ?_)
      refine W.eq (g2 := F0 m 38 ls []) rfl ?_
      refine x_iconst hx hb dX5_when_38 ?_
      refine lv_istore_n (lv' := [(3, .int (iI 0)), (0, .ref (r 0)), (1, .int (iI ((p0 : Nat) : Int))), (2, .int (iI v))]) hx hb dX5_when_39 rfl hl (by decide) rfl (fun ls hl => ?_)
      have L40 : ∀ (k t : Nat) (Tt : Tb) (jt : Nat → Int) (H : Heap) (locs : List Loc) (ls : Array Slot), t + k = 101 → (fdF (fdB p0 5 v 1000000) k t Tt = fdF (fdB p0 5 v 1000000) 101 0 T) → (Inv (B + (t : Int)) Tt) → (Tt 0 = T 0) → va_P D vwCl (wRo r ik tn jt ++ (wA cI (r 1) 100 Tt ++ (wA cI (r 2) 100 K ++ (wA cI (r 3) 100 X ++ (wA cI (r 4) 100 T ++ (wA cI (r 5) 8 (fR F) ++ (wA cI (r 6) 120 TB ++ (wA cI (r 7) 4 (bR SB) ++ (wA cI (r 8) 4 SS ++ (wA cI (r 9) 160 SN)))))))))) H → va_D A (wRo r ik tn jt ++ (wA cI (r 1) 100 Tt ++ (wA cI (r 2) 100 K ++ (wA cI (r 3) 100 X ++ (wA cI (r 4) 100 T ++ (wA cI (r 5) 8 (fR F) ++ (wA cI (r 6) 120 TB ++ (wA cI (r 7) 4 (bR SB) ++ (wA cI (r 8) 4 SS ++ (wA cI (r 9) 160 SN)))))))))) → va_S A s.heap H locs → lv_has ls 4 [(0, .ref (r 0)), (1, .int (iI ((p0 : Nat) : Int))), (2, .int (iI v)), (3, .int (iI ((t : Nat) : Int)))] → W pg l e { frames := 5, cells := 0, slots := 0, locals := 111 } s m args below meth c H locs 0 0 Q (F0 m 40 ls []) := by
        intro k
        induction k with
        | zero =>
          intro t Tt jt H locs ls hkt hr hi0 h0 hP hD hS hl
          refine lv_iload_n hx hb dX5_when_40 rfl (lv_at hl 3 rfl) ?_
          refine x_bipush hx hb dX5_when_41 (by decide) ?_
          refine x_icmp_gt (tgt := 66) hx hb (by omega) (by decide) dX5_when_43 (by decide) (fun c_43 => ?_) (fun c_43 => ?_)
          · refine lv_aload_n hx hb dX5_when_66 rfl (lv_at hl 0 rfl) ?_
            refine va_get (D := D) (ci := 4) (v := .ref (r 4)) (C := RX5) (T := TX5) (N := 18) hx hb hts (iT_X5_when_X5) hown hK hP 0 rfl rfl 3 (by decide) (hts (.fieldLink RX5 19 "WordSupperModel" "aside" "[I") (by decide +kernel)) (fun _ h9 => h9) rfl dX5_when_67 ?_
            refine lv_aload_n hx hb dX5_when_70 rfl (lv_at hl 0 rfl) ?_
            refine va_get (D := D) (ci := 4) (v := .ref (r 1)) (C := RX5) (T := TX5) (N := 18) hx hb hts (iT_X5_when_X5) hown hK hP 0 rfl rfl 0 (by decide) (hts (.fieldLink RX5 7 "WordSupperModel" "s" "[I") (by decide +kernel)) (fun _ h9 => h9) rfl dX5_when_71 ?_
            refine x_callS (As := [.ref (r 4), .ref (r 1)]) (rest := []) ⟨hx, hb, hml, hown, hts⟩ (kX5_copyRow (r 4) T (r 1) Tt ) (va_cwS 2 hts gX5_when_X5_copyRow rfl rfl rfl ykSX5_copyRow ⟨Nat.le_of_ble_eq_true rfl, Nat.le_of_ble_eq_true rfl⟩) hP hK hD hS [4, 1] rfl (by decide) (fun _ => rfl) (fun _ => wRo r ik tn jt ++ (wA cI (r 1) 100 T ++ (wA cI (r 2) 100 K ++ (wA cI (r 3) 100 X ++ (wA cI (r 4) 100 T ++ (wA cI (r 5) 8 (fR F) ++ (wA cI (r 6) 120 TB ++ (wA cI (r 7) 4 (bR SB) ++ (wA cI (r 8) 4 SS ++ (wA cI (r 9) 160 SN)))))))))) (fun _ => rfl) rfl hl.1 rfl (Nat.le_of_ble_eq_true rfl) dX5_when_74 ⟨Nat.le_of_ble_eq_true rfl, Nat.le_of_ble_eq_true rfl⟩ (fun _ H locs _ hP hD hS => ?_)
            refine W.eq (g2 := F0 m 77 ls []) rfl ?_
            refine lv_iload_n hx hb dX5_when_77 rfl (lv_at hl 3 rfl) ?_
            refine x_bipush hx hb dX5_when_78 (by decide) ?_
            refine x_icmp_gt (tgt := 87) hx hb (by omega) (by decide) dX5_when_80 (by decide) (fun c_80 => ?_) (fun c_80 => ?_)
            · refine lv_aload_n hx hb dX5_when_87 rfl (lv_at hl 0 rfl) ?_
              refine x_ldc hx hb (-1000004) rfl hown (hts (.constant RX5 38 (-1000004)) (by decide +kernel)) dX5_when_88 ?_
              refine x_callV (As := [.int (iI (-1000004))]) (rest := []) ⟨hx, hb, hml, hown, hts⟩ (kX5_finds r ik tn jt F (-1000004) 3 (by omega) (by omega)) (cwV 1 hts gX5_when_X5_finds rfl rfl rfl ykVX5_finds ⟨Nat.le_of_ble_eq_true rfl, Nat.le_of_ble_eq_true rfl⟩) hP hK hD hS 0 4 rfl rfl rfl [0, 5] rfl (by decide) (fun _ => rfl) (fun _ => wRo r ik tn jt ++ (wA cI (r 1) 100 T ++ (wA cI (r 2) 100 K ++ (wA cI (r 3) 100 X ++ (wA cI (r 4) 100 T ++ (wA cI (r 5) 8 (fR (bmp 3 F)) ++ (wA cI (r 6) 120 TB ++ (wA cI (r 7) 4 (bR SB) ++ (wA cI (r 8) 4 SS ++ (wA cI (r 9) 160 SN)))))))))) (fun _ => rfl) rfl hl.1 rfl (Nat.le_of_ble_eq_true rfl) dX5_when_90 ⟨Nat.le_of_ble_eq_true rfl, Nat.le_of_ble_eq_true rfl⟩ (fun _ H locs _ hP hD hS => ?_)
              refine W.eq (g2 := F0 m 93 ls [.int (iI (-1000004))]) rfl ?_
              exact kend (((-1000004), T, K, ik, SB, SS, SN, tn, TB, (bmp 3 F)), X, T, jt) hP hS rfl (by unfold m_when; rw [if_pos (by omega)]; simp only [Int.toNat_natCast]; exact fdR_of (by rw [← hr, fdF, if_neg (by omega)])) dX5_when_93
            · exfalso; omega
          · exfalso; omega
        | succ k ih =>
          intro t Tt jt H locs ls hkt hr hi0 h0 hP hD hS hl
          refine lv_iload_n hx hb dX5_when_40 rfl (lv_at hl 3 rfl) ?_
          refine x_bipush hx hb dX5_when_41 (by decide) ?_
          refine x_icmp_gt (tgt := 66) hx hb (by omega) (by decide) dX5_when_43 (by decide) (fun c_43 => ?_) (fun c_43 => ?_)
          · exfalso; omega
          · have hv9 := Inv_lf (p := p0) hi0 (by omega)
            have tr9 : trF Tt p0 5 = lfF Tt p0 := rfl
            refine lv_aload_n hx hb dX5_when_46 rfl (lv_at hl 0 rfl) ?_
            refine lv_iload_n hx hb dX5_when_47 rfl (lv_at hl 1 rfl) ?_
            refine x_callV (As := [.int (iI ((p0 : Nat) : Int))]) (rest := []) ⟨hx, hb, hml, hown, hts⟩ (kX5_left r ik tn jt Tt p0 (by omega)) (cwV 1 hts gX5_when_X5_left rfl rfl rfl ykVX5_left ⟨Nat.le_of_ble_eq_true rfl, Nat.le_of_ble_eq_true rfl⟩) hP hK hD hS 0 4 rfl rfl rfl [0, 1] rfl (by decide) (fun _ => rfl) (fun _ => wRo r ik tn jt ++ (wA cI (r 1) 100 Tt ++ (wA cI (r 2) 100 K ++ (wA cI (r 3) 100 X ++ (wA cI (r 4) 100 T ++ (wA cI (r 5) 8 (fR F) ++ (wA cI (r 6) 120 TB ++ (wA cI (r 7) 4 (bR SB) ++ (wA cI (r 8) 4 SS ++ (wA cI (r 9) 160 SN)))))))))) (fun _ => rfl) rfl hl.1 rfl (Nat.le_of_ble_eq_true rfl) dX5_when_48 ⟨Nat.le_of_ble_eq_true rfl, Nat.le_of_ble_eq_true rfl⟩ (fun _ H locs _ hP hD hS => ?_)
            refine W.eq (g2 := F0 m 51 ls [.int (iI (lfF Tt p0))]) rfl ?_
            refine lv_iload_n hx hb dX5_when_51 rfl (lv_at hl 2 rfl) ?_
            refine x_icmp_ge (tgt := 66) hx hb (by omega) (by omega) dX5_when_52 (by decide) (fun c_52 => ?_) (fun c_52 => ?_)
            · refine lv_aload_n hx hb dX5_when_66 rfl (lv_at hl 0 rfl) ?_
              refine va_get (D := D) (ci := 4) (v := .ref (r 4)) (C := RX5) (T := TX5) (N := 18) hx hb hts (iT_X5_when_X5) hown hK hP 0 rfl rfl 3 (by decide) (hts (.fieldLink RX5 19 "WordSupperModel" "aside" "[I") (by decide +kernel)) (fun _ h9 => h9) rfl dX5_when_67 ?_
              refine lv_aload_n hx hb dX5_when_70 rfl (lv_at hl 0 rfl) ?_
              refine va_get (D := D) (ci := 4) (v := .ref (r 1)) (C := RX5) (T := TX5) (N := 18) hx hb hts (iT_X5_when_X5) hown hK hP 0 rfl rfl 0 (by decide) (hts (.fieldLink RX5 7 "WordSupperModel" "s" "[I") (by decide +kernel)) (fun _ h9 => h9) rfl dX5_when_71 ?_
              refine x_callS (As := [.ref (r 4), .ref (r 1)]) (rest := []) ⟨hx, hb, hml, hown, hts⟩ (kX5_copyRow (r 4) T (r 1) Tt ) (va_cwS 2 hts gX5_when_X5_copyRow rfl rfl rfl ykSX5_copyRow ⟨Nat.le_of_ble_eq_true rfl, Nat.le_of_ble_eq_true rfl⟩) hP hK hD hS [4, 1] rfl (by decide) (fun _ => rfl) (fun _ => wRo r ik tn jt ++ (wA cI (r 1) 100 T ++ (wA cI (r 2) 100 K ++ (wA cI (r 3) 100 X ++ (wA cI (r 4) 100 T ++ (wA cI (r 5) 8 (fR F) ++ (wA cI (r 6) 120 TB ++ (wA cI (r 7) 4 (bR SB) ++ (wA cI (r 8) 4 SS ++ (wA cI (r 9) 160 SN)))))))))) (fun _ => rfl) rfl hl.1 rfl (Nat.le_of_ble_eq_true rfl) dX5_when_74 ⟨Nat.le_of_ble_eq_true rfl, Nat.le_of_ble_eq_true rfl⟩ (fun _ H locs _ hP hD hS => ?_)
              refine W.eq (g2 := F0 m 77 ls []) rfl ?_
              refine lv_iload_n hx hb dX5_when_77 rfl (lv_at hl 3 rfl) ?_
              refine x_bipush hx hb dX5_when_78 (by decide) ?_
              refine x_icmp_gt (tgt := 87) hx hb (by omega) (by decide) dX5_when_80 (by decide) (fun c_80 => ?_) (fun c_80 => ?_)
              · exfalso; omega
              · refine lv_iload_n hx hb dX5_when_83 rfl (lv_at hl 3 rfl) ?_
                refine lv_goto (tgt := 93) hx hb dX5_when_84 (by decide) ?_
                exact kend ((((t : Nat) : Int), T, K, ik, SB, SS, SN, tn, TB, F), X, T, jt) hP hS rfl (by unfold m_when; rw [if_pos (by omega)]; simp only [Int.toNat_natCast]; exact fdR_of (by rw [← hr, fd_t (fdB_t (show v ≤ trF Tt p0 5 ∧ trF Tt p0 5 ≤ 1000000 by omega)), if_pos (by omega)])) dX5_when_93
            · refine lv_aload_n hx hb dX5_when_55 rfl (lv_at hl 0 rfl) ?_
              refine x_iconst hx hb dX5_when_56 ?_
              refine x_callV (As := [.int (iI 0)]) (rest := []) ⟨hx, hb, hml, hown, hts⟩ (kX5_dayBut r ik tn jt Tt 0 (B + (t : Int)) hi0 (by omega) (by decide)) (cwV 1 hts gX5_when_X5_dayBut rfl rfl rfl ykVX5_dayBut ⟨Nat.le_of_ble_eq_true rfl, Nat.le_of_ble_eq_true rfl⟩) hP hK hD hS 0 4 rfl rfl rfl [0, 1] rfl (by decide) (fun _ => rfl) (fun u => wRo r ik tn u.2 ++ (wA cI (r 1) 100 u.1 ++ (wA cI (r 2) 100 K ++ (wA cI (r 3) 100 X ++ (wA cI (r 4) 100 T ++ (wA cI (r 5) 8 (fR F) ++ (wA cI (r 6) 120 TB ++ (wA cI (r 7) 4 (bR SB) ++ (wA cI (r 8) 4 SS ++ (wA cI (r 9) 160 SN)))))))))) (fun _ => rfl) rfl hl.1 rfl (Nat.le_of_ble_eq_true rfl) dX5_when_57 ⟨Nat.le_of_ble_eq_true rfl, Nat.le_of_ble_eq_true rfl⟩ (fun u3 H locs hp4 hP hD hS => ?_)
              obtain ⟨T11, j12⟩ := u3
              replace hp4 : T11 = dyF 0 Tt := hp4
              have hP : va_P D vwCl (wRo r ik tn j12 ++ (wA cI (r 1) 100 T11 ++ (wA cI (r 2) 100 K ++ (wA cI (r 3) 100 X ++ (wA cI (r 4) 100 T ++ (wA cI (r 5) 8 (fR F) ++ (wA cI (r 6) 120 TB ++ (wA cI (r 7) 4 (bR SB) ++ (wA cI (r 8) 4 SS ++ (wA cI (r 9) 160 SN)))))))))) H := hP
              have hD : va_D A (wRo r ik tn j12 ++ (wA cI (r 1) 100 T11 ++ (wA cI (r 2) 100 K ++ (wA cI (r 3) 100 X ++ (wA cI (r 4) 100 T ++ (wA cI (r 5) 8 (fR F) ++ (wA cI (r 6) 120 TB ++ (wA cI (r 7) 4 (bR SB) ++ (wA cI (r 8) 4 SS ++ (wA cI (r 9) 160 SN)))))))))) := hD
              refine W.eq (g2 := F0 m 60 ls []) rfl ?_
              refine x_iinc hx hb 3 ((t + 1 : Nat) : Int) (by omega) [(3, .int (iI ((t + 1 : Nat) : Int))), (0, .ref (r 0)), (1, .int (iI ((p0 : Nat) : Int))), (2, .int (iI v))] dX5_when_60 hl rfl (by decide) rfl (fun ls hl => ?_)
              refine lv_goto (tgt := 40) hx hb dX5_when_63 (by decide) ?_
              exact ih (t + 1) T11 j12 _ _ _ (by omega) (by rw [← hr, fd_n (fdB_f (show ¬ (v ≤ trF Tt p0 5 ∧ trF Tt p0 5 ≤ 1000000) by omega)), hp4]) (by rw [hp4, show B + ((t + 1 : Nat) : Int) = B + (t : Int) + 1 by omega]; exact (dyF_I hi0).1) (by rw [hp4, (dyF_I hi0).2.1]; exact h0) hP hD hS (lv_sub hl [1, 2, 3, 0] rfl)
      exact L40 101 0 T j _ _ _ (by omega) rfl (by simpa using hI) rfl hP hD hS (lv_sub hl [1, 2, 3, 0] rfl)
    · refine lv_aload_n hx hb dX5_when_20 rfl (lv_at hl 0 rfl) ?_
      refine x_ldc hx hb (-1000001) rfl hown (hts (.constant RX5 37 (-1000001)) (by decide +kernel)) dX5_when_21 ?_
      refine x_callV (As := [.int (iI (-1000001))]) (rest := []) ⟨hx, hb, hml, hown, hts⟩ (kX5_finds r ik tn j F (-1000001) 0 (by omega) (by omega)) (cwV 1 hts gX5_when_X5_finds rfl rfl rfl ykVX5_finds ⟨Nat.le_of_ble_eq_true rfl, Nat.le_of_ble_eq_true rfl⟩) hP hK hD hS 0 4 rfl rfl rfl [0, 5] rfl (by decide) (fun _ => rfl) (fun _ => wRo r ik tn j ++ (wA cI (r 1) 100 T ++ (wA cI (r 2) 100 K ++ (wA cI (r 3) 100 X ++ (wA cI (r 4) 100 Y ++ (wA cI (r 5) 8 (fR (bmp 0 F)) ++ (wA cI (r 6) 120 TB ++ (wA cI (r 7) 4 (bR SB) ++ (wA cI (r 8) 4 SS ++ (wA cI (r 9) 160 SN)))))))))) (fun _ => rfl) rfl hl.1 rfl (Nat.le_of_ble_eq_true rfl) dX5_when_23 ⟨Nat.le_of_ble_eq_true rfl, Nat.le_of_ble_eq_true rfl⟩ (fun _ H locs _ hP hD hS => ?_)
      refine W.eq (g2 := F0 m 26 ls [.int (iI (-1000001))]) rfl ?_
      exact kend (((-1000001), T, K, ik, SB, SS, SN, tn, TB, (bmp 0 F)), X, Y, j) hP hS rfl (if_neg (by omega)).symm dX5_when_26
theorem ykSX5_thin : yX5_thin.cls ≠ "java/lang/invoke/MethodHandle" ∧ yX5_thin.cls ≠ "java/lang/invoke/VarHandle" ∧ (parseMethodDescriptor yX5_thin.desc).map (fun d => d.parameters.length) = some 1 := by decide +kernel
theorem ykVX5_thin : yX5_thin.cls = RX5 ∧ yX5_thin.cls ≠ "java/lang/invoke/MethodHandle" ∧ yX5_thin.cls ≠ "java/lang/invoke/VarHandle" ∧ (parseMethodDescriptor yX5_thin.desc).map (fun d => d.parameters.length) = some 1 := ⟨rfl, ykSX5_thin⟩
set_option maxRecDepth 20000 in
theorem iT_X5_thin_X5 : ∀ w ∈ u_ws RX5 TX5 18, w ∈ wsX5_thin := by decide +kernel
set_option maxHeartbeats 4000000 in
set_option maxRecDepth 100000 in
theorem kX5_thin {l : Launch} {D : va_G} {cI cB : ClassId} (r : Nat → Nat) (T K : Tb) (ik : Int) (SB SS SN : Nat → Int) (tn : Int) (TB F : Nat → Int) (X Y : Tb) (j : Nat → Int) (sp : Int) (B : Int) (hG : GI B T K ik SB SS SN tn TB F) (hB : B ≤ 40000) (h_sp : rI sp) : Ct l yX5_thin wsX5_thin 5 111 D [(cI, .int), (cB, .byte)] [.ref (r 0), .int (iI sp)] (wM cI r (T, K, ik, SB, SS, SN, tn, TB, F) X Y j) (S := (Int × Gs) × Tb × Tb × (Nat → Int)) (fun u => some (.int (iI u.1.1))) (fun u => u.1 = m_thin sp T K ik SB SS SN tn TB F) (fun u => wM cI r u.1.2 u.2.1 u.2.2.1 u.2.2.2) := by
  refine CtI.of (cc := cX5_thin) (maxL := 3) (by decide +kernel) rfl (Nat.le_of_ble_eq_true rfl) ?_
  intro pg e s m args below meth c Q A hx hb hml hts hown hP hK hD hS ls hl kend
  have hown : s.vm.findClass RX5 = some m.cls := hown
  have hl : lv_has ls 3 [(0, .ref (r 0)), (1, .int (iI sp))] := hl
  obtain ⟨hI, hIK, hik, hSB, hSS, hSN, htn, hTB, hF⟩ := id hG
  have hn := Inv_n hI
  have hdy := Inv_d hI
  have hP : va_P D vwCl (wRo r ik tn j ++ (wA cI (r 1) 100 T ++ (wA cI (r 2) 100 K ++ (wA cI (r 3) 100 X ++ (wA cI (r 4) 100 Y ++ (wA cI (r 5) 8 (fR F) ++ (wA cI (r 6) 120 TB ++ (wA cI (r 7) 4 (bR SB) ++ (wA cI (r 8) 4 SS ++ (wA cI (r 9) 160 SN)))))))))) s.heap := hP
  have hD : va_D A (wRo r ik tn j ++ (wA cI (r 1) 100 T ++ (wA cI (r 2) 100 K ++ (wA cI (r 3) 100 X ++ (wA cI (r 4) 100 Y ++ (wA cI (r 5) 8 (fR F) ++ (wA cI (r 6) 120 TB ++ (wA cI (r 7) 4 (bR SB) ++ (wA cI (r 8) 4 SS ++ (wA cI (r 9) 160 SN)))))))))) := hD
  refine lv_aload_n hx hb dX5_thin_0 rfl (lv_at hl 0 rfl) ?_
  refine lv_iload_n hx hb dX5_thin_1 rfl (lv_at hl 1 rfl) ?_
  refine x_callV (As := [.int (iI sp)]) (rest := []) ⟨hx, hb, hml, hown, hts⟩ (kX5_isOne r ik tn j T sp (by omega) (by omega)) (cwV 1 hts gX5_thin_X5_isOne rfl rfl rfl ykVX5_isOne ⟨Nat.le_of_ble_eq_true rfl, Nat.le_of_ble_eq_true rfl⟩) hP hK hD hS 0 4 rfl rfl rfl [0, 1] rfl (by decide) (fun _ => rfl) (fun _ => wRo r ik tn j ++ (wA cI (r 1) 100 T ++ (wA cI (r 2) 100 K ++ (wA cI (r 3) 100 X ++ (wA cI (r 4) 100 Y ++ (wA cI (r 5) 8 (fR F) ++ (wA cI (r 6) 120 TB ++ (wA cI (r 7) 4 (bR SB) ++ (wA cI (r 8) 4 SS ++ (wA cI (r 9) 160 SN)))))))))) (fun _ => rfl) rfl hl.1 rfl (Nat.le_of_ble_eq_true rfl) dX5_thin_2 ⟨Nat.le_of_ble_eq_true rfl, Nat.le_of_ble_eq_true rfl⟩ (fun _ H locs _ hP hD hS => ?_)
  refine W.eq (g2 := F0 m 5 ls [.int (iI (b2 (decide (0 ≤ sp ∧ sp < T 0))))]) rfl ?_
  refine x_ifb_ne (tgt := 15) hx hb dX5_thin_5 (by decide) (fun c_5 => ?_) (fun c_5 => ?_)
  · obtain ⟨p0, rfl⟩ : ∃ p0 : Nat, sp = (p0 : Int) := ⟨sp.toNat, by omega⟩
    refine lv_aload_n hx hb dX5_thin_15 rfl (lv_at hl 0 rfl) ?_
    refine va_get (D := D) (ci := 4) (v := .ref (r 1)) (C := RX5) (T := TX5) (N := 18) hx hb hts (iT_X5_thin_X5) hown hK hP 0 rfl rfl 0 (by decide) (hts (.fieldLink RX5 7 "WordSupperModel" "s" "[I") (by decide +kernel)) (fun _ h9 => h9) rfl dX5_thin_16 ?_
    refine lv_aload_n hx hb dX5_thin_19 rfl (lv_at hl 0 rfl) ?_
    refine va_get (D := D) (ci := 4) (v := .ref (r 4)) (C := RX5) (T := TX5) (N := 18) hx hb hts (iT_X5_thin_X5) hown hK hP 0 rfl rfl 3 (by decide) (hts (.fieldLink RX5 19 "WordSupperModel" "aside" "[I") (by decide +kernel)) (fun _ h9 => h9) rfl dX5_thin_20 ?_
    refine x_callS (As := [.ref (r 1), .ref (r 4)]) (rest := []) ⟨hx, hb, hml, hown, hts⟩ (kX5_copyRow (r 1) T (r 4) Y ) (va_cwS 2 hts gX5_thin_X5_copyRow rfl rfl rfl ykSX5_copyRow ⟨Nat.le_of_ble_eq_true rfl, Nat.le_of_ble_eq_true rfl⟩) hP hK hD hS [1, 4] rfl (by decide) (fun _ => rfl) (fun _ => wRo r ik tn j ++ (wA cI (r 1) 100 T ++ (wA cI (r 2) 100 K ++ (wA cI (r 3) 100 X ++ (wA cI (r 4) 100 T ++ (wA cI (r 5) 8 (fR F) ++ (wA cI (r 6) 120 TB ++ (wA cI (r 7) 4 (bR SB) ++ (wA cI (r 8) 4 SS ++ (wA cI (r 9) 160 SN)))))))))) (fun _ => rfl) rfl hl.1 rfl (Nat.le_of_ble_eq_true rfl) dX5_thin_23 ⟨Nat.le_of_ble_eq_true rfl, Nat.le_of_ble_eq_true rfl⟩ (fun _ H locs _ hP hD hS => ?_)
    refine W.eq (g2 := F0 m 26 ls []) rfl ?_
    refine x_iconst hx hb dX5_thin_26 ?_
    refine lv_istore_n (lv' := [(2, .int (iI 0)), (0, .ref (r 0)), (1, .int (iI ((p0 : Nat) : Int)))]) hx hb dX5_thin_27 rfl hl (by decide) rfl (fun ls hl => ?_)
    have L28 : ∀ (k t : Nat) (Tt : Tb) (jt : Nat → Int) (H : Heap) (locs : List Loc) (ls : Array Slot), t + k = 101 → (fdF (fdB p0 2 0 0) k t Tt = fdF (fdB p0 2 0 0) 101 0 T) → (Inv (B + (t : Int)) Tt) → (Tt 0 = T 0) → va_P D vwCl (wRo r ik tn jt ++ (wA cI (r 1) 100 Tt ++ (wA cI (r 2) 100 K ++ (wA cI (r 3) 100 X ++ (wA cI (r 4) 100 T ++ (wA cI (r 5) 8 (fR F) ++ (wA cI (r 6) 120 TB ++ (wA cI (r 7) 4 (bR SB) ++ (wA cI (r 8) 4 SS ++ (wA cI (r 9) 160 SN)))))))))) H → va_D A (wRo r ik tn jt ++ (wA cI (r 1) 100 Tt ++ (wA cI (r 2) 100 K ++ (wA cI (r 3) 100 X ++ (wA cI (r 4) 100 T ++ (wA cI (r 5) 8 (fR F) ++ (wA cI (r 6) 120 TB ++ (wA cI (r 7) 4 (bR SB) ++ (wA cI (r 8) 4 SS ++ (wA cI (r 9) 160 SN)))))))))) → va_S A s.heap H locs → lv_has ls 3 [(0, .ref (r 0)), (1, .int (iI ((p0 : Nat) : Int))), (2, .int (iI ((t : Nat) : Int)))] → W pg l e { frames := 5, cells := 0, slots := 0, locals := 111 } s m args below meth c H locs 0 0 Q (F0 m 28 ls []) := by
      intro k
      induction k with
      | zero =>
        intro t Tt jt H locs ls hkt hr hi0 h0 hP hD hS hl
        refine lv_iload_n hx hb dX5_thin_28 rfl (lv_at hl 2 rfl) ?_
        refine x_bipush hx hb dX5_thin_29 (by decide) ?_
        refine x_icmp_gt (tgt := 54) hx hb (by omega) (by decide) dX5_thin_31 (by decide) (fun c_31 => ?_) (fun c_31 => ?_)
        · refine lv_aload_n hx hb dX5_thin_54 rfl (lv_at hl 0 rfl) ?_
          refine va_get (D := D) (ci := 4) (v := .ref (r 4)) (C := RX5) (T := TX5) (N := 18) hx hb hts (iT_X5_thin_X5) hown hK hP 0 rfl rfl 3 (by decide) (hts (.fieldLink RX5 19 "WordSupperModel" "aside" "[I") (by decide +kernel)) (fun _ h9 => h9) rfl dX5_thin_55 ?_
          refine lv_aload_n hx hb dX5_thin_58 rfl (lv_at hl 0 rfl) ?_
          refine va_get (D := D) (ci := 4) (v := .ref (r 1)) (C := RX5) (T := TX5) (N := 18) hx hb hts (iT_X5_thin_X5) hown hK hP 0 rfl rfl 0 (by decide) (hts (.fieldLink RX5 7 "WordSupperModel" "s" "[I") (by decide +kernel)) (fun _ h9 => h9) rfl dX5_thin_59 ?_
          refine x_callS (As := [.ref (r 4), .ref (r 1)]) (rest := []) ⟨hx, hb, hml, hown, hts⟩ (kX5_copyRow (r 4) T (r 1) Tt ) (va_cwS 2 hts gX5_thin_X5_copyRow rfl rfl rfl ykSX5_copyRow ⟨Nat.le_of_ble_eq_true rfl, Nat.le_of_ble_eq_true rfl⟩) hP hK hD hS [4, 1] rfl (by decide) (fun _ => rfl) (fun _ => wRo r ik tn jt ++ (wA cI (r 1) 100 T ++ (wA cI (r 2) 100 K ++ (wA cI (r 3) 100 X ++ (wA cI (r 4) 100 T ++ (wA cI (r 5) 8 (fR F) ++ (wA cI (r 6) 120 TB ++ (wA cI (r 7) 4 (bR SB) ++ (wA cI (r 8) 4 SS ++ (wA cI (r 9) 160 SN)))))))))) (fun _ => rfl) rfl hl.1 rfl (Nat.le_of_ble_eq_true rfl) dX5_thin_62 ⟨Nat.le_of_ble_eq_true rfl, Nat.le_of_ble_eq_true rfl⟩ (fun _ H locs _ hP hD hS => ?_)
          refine W.eq (g2 := F0 m 65 ls []) rfl ?_
          refine lv_iload_n hx hb dX5_thin_65 rfl (lv_at hl 2 rfl) ?_
          refine x_bipush hx hb dX5_thin_66 (by decide) ?_
          refine x_icmp_gt (tgt := 75) hx hb (by omega) (by decide) dX5_thin_68 (by decide) (fun c_68 => ?_) (fun c_68 => ?_)
          · refine lv_aload_n hx hb dX5_thin_75 rfl (lv_at hl 0 rfl) ?_
            refine x_ldc hx hb (-1000004) rfl hown (hts (.constant RX5 38 (-1000004)) (by decide +kernel)) dX5_thin_76 ?_
            refine x_callV (As := [.int (iI (-1000004))]) (rest := []) ⟨hx, hb, hml, hown, hts⟩ (kX5_finds r ik tn jt F (-1000004) 3 (by omega) (by omega)) (cwV 1 hts gX5_thin_X5_finds rfl rfl rfl ykVX5_finds ⟨Nat.le_of_ble_eq_true rfl, Nat.le_of_ble_eq_true rfl⟩) hP hK hD hS 0 4 rfl rfl rfl [0, 5] rfl (by decide) (fun _ => rfl) (fun _ => wRo r ik tn jt ++ (wA cI (r 1) 100 T ++ (wA cI (r 2) 100 K ++ (wA cI (r 3) 100 X ++ (wA cI (r 4) 100 T ++ (wA cI (r 5) 8 (fR (bmp 3 F)) ++ (wA cI (r 6) 120 TB ++ (wA cI (r 7) 4 (bR SB) ++ (wA cI (r 8) 4 SS ++ (wA cI (r 9) 160 SN)))))))))) (fun _ => rfl) rfl hl.1 rfl (Nat.le_of_ble_eq_true rfl) dX5_thin_78 ⟨Nat.le_of_ble_eq_true rfl, Nat.le_of_ble_eq_true rfl⟩ (fun _ H locs _ hP hD hS => ?_)
            refine W.eq (g2 := F0 m 81 ls [.int (iI (-1000004))]) rfl ?_
            exact kend (((-1000004), T, K, ik, SB, SS, SN, tn, TB, (bmp 3 F)), X, T, jt) hP hS rfl (by unfold m_thin; rw [if_pos (by omega)]; simp only [Int.toNat_natCast]; exact fdR_of (by rw [← hr, fdF, if_neg (by omega)])) dX5_thin_81
          · exfalso; omega
        · exfalso; omega
      | succ k ih =>
        intro t Tt jt H locs ls hkt hr hi0 h0 hP hD hS hl
        refine lv_iload_n hx hb dX5_thin_28 rfl (lv_at hl 2 rfl) ?_
        refine x_bipush hx hb dX5_thin_29 (by decide) ?_
        refine x_icmp_gt (tgt := 54) hx hb (by omega) (by decide) dX5_thin_31 (by decide) (fun c_31 => ?_) (fun c_31 => ?_)
        · exfalso; omega
        · have hv9 := Inv_f (p := p0) hi0 (by omega)
          have tr9 : trF Tt p0 2 = Tt (cx p0 2) := rfl
          refine lv_aload_n hx hb dX5_thin_34 rfl (lv_at hl 0 rfl) ?_
          refine lv_iload_n hx hb dX5_thin_35 rfl (lv_at hl 1 rfl) ?_
          refine x_iconst hx hb dX5_thin_36 ?_
          refine x_callV (As := [.int (iI ((p0 : Nat) : Int)), .int (iI 2)]) (rest := []) ⟨hx, hb, hml, hown, hts⟩ (kX5_its r ik tn jt Tt p0 2 (by omega) (by omega)) (cwV 2 hts gX5_thin_X5_its rfl rfl rfl ykVX5_its ⟨Nat.le_of_ble_eq_true rfl, Nat.le_of_ble_eq_true rfl⟩) hP hK hD hS 0 4 rfl rfl rfl [0, 1] rfl (by decide) (fun _ => rfl) (fun _ => wRo r ik tn jt ++ (wA cI (r 1) 100 Tt ++ (wA cI (r 2) 100 K ++ (wA cI (r 3) 100 X ++ (wA cI (r 4) 100 T ++ (wA cI (r 5) 8 (fR F) ++ (wA cI (r 6) 120 TB ++ (wA cI (r 7) 4 (bR SB) ++ (wA cI (r 8) 4 SS ++ (wA cI (r 9) 160 SN)))))))))) (fun _ => rfl) rfl hl.1 rfl (Nat.le_of_ble_eq_true rfl) dX5_thin_37 ⟨Nat.le_of_ble_eq_true rfl, Nat.le_of_ble_eq_true rfl⟩ (fun _ H locs _ hP hD hS => ?_)
          refine W.eq (g2 := F0 m 40 ls [.int (iI (Tt (cx p0 2)))]) rfl ?_
          refine x_if_le (tgt := 54) hx hb (by omega) dX5_thin_40 (by decide) (fun c_40 => ?_) (fun c_40 => ?_)
          · refine lv_aload_n hx hb dX5_thin_54 rfl (lv_at hl 0 rfl) ?_
            refine va_get (D := D) (ci := 4) (v := .ref (r 4)) (C := RX5) (T := TX5) (N := 18) hx hb hts (iT_X5_thin_X5) hown hK hP 0 rfl rfl 3 (by decide) (hts (.fieldLink RX5 19 "WordSupperModel" "aside" "[I") (by decide +kernel)) (fun _ h9 => h9) rfl dX5_thin_55 ?_
            refine lv_aload_n hx hb dX5_thin_58 rfl (lv_at hl 0 rfl) ?_
            refine va_get (D := D) (ci := 4) (v := .ref (r 1)) (C := RX5) (T := TX5) (N := 18) hx hb hts (iT_X5_thin_X5) hown hK hP 0 rfl rfl 0 (by decide) (hts (.fieldLink RX5 7 "WordSupperModel" "s" "[I") (by decide +kernel)) (fun _ h9 => h9) rfl dX5_thin_59 ?_
            refine x_callS (As := [.ref (r 4), .ref (r 1)]) (rest := []) ⟨hx, hb, hml, hown, hts⟩ (kX5_copyRow (r 4) T (r 1) Tt ) (va_cwS 2 hts gX5_thin_X5_copyRow rfl rfl rfl ykSX5_copyRow ⟨Nat.le_of_ble_eq_true rfl, Nat.le_of_ble_eq_true rfl⟩) hP hK hD hS [4, 1] rfl (by decide) (fun _ => rfl) (fun _ => wRo r ik tn jt ++ (wA cI (r 1) 100 T ++ (wA cI (r 2) 100 K ++ (wA cI (r 3) 100 X ++ (wA cI (r 4) 100 T ++ (wA cI (r 5) 8 (fR F) ++ (wA cI (r 6) 120 TB ++ (wA cI (r 7) 4 (bR SB) ++ (wA cI (r 8) 4 SS ++ (wA cI (r 9) 160 SN)))))))))) (fun _ => rfl) rfl hl.1 rfl (Nat.le_of_ble_eq_true rfl) dX5_thin_62 ⟨Nat.le_of_ble_eq_true rfl, Nat.le_of_ble_eq_true rfl⟩ (fun _ H locs _ hP hD hS => ?_)
            refine W.eq (g2 := F0 m 65 ls []) rfl ?_
            refine lv_iload_n hx hb dX5_thin_65 rfl (lv_at hl 2 rfl) ?_
            refine x_bipush hx hb dX5_thin_66 (by decide) ?_
            refine x_icmp_gt (tgt := 75) hx hb (by omega) (by decide) dX5_thin_68 (by decide) (fun c_68 => ?_) (fun c_68 => ?_)
            · exfalso; omega
            · refine lv_iload_n hx hb dX5_thin_71 rfl (lv_at hl 2 rfl) ?_
              refine lv_goto (tgt := 81) hx hb dX5_thin_72 (by decide) ?_
              exact kend ((((t : Nat) : Int), T, K, ik, SB, SS, SN, tn, TB, F), X, T, jt) hP hS rfl (by unfold m_thin; rw [if_pos (by omega)]; simp only [Int.toNat_natCast]; exact fdR_of (by rw [← hr, fd_t (fdB_t (show 0 ≤ trF Tt p0 2 ∧ trF Tt p0 2 ≤ 0 by omega)), if_pos (by omega)])) dX5_thin_81
          · refine lv_aload_n hx hb dX5_thin_43 rfl (lv_at hl 0 rfl) ?_
            refine x_iconst hx hb dX5_thin_44 ?_
            refine x_callV (As := [.int (iI 0)]) (rest := []) ⟨hx, hb, hml, hown, hts⟩ (kX5_dayBut r ik tn jt Tt 0 (B + (t : Int)) hi0 (by omega) (by decide)) (cwV 1 hts gX5_thin_X5_dayBut rfl rfl rfl ykVX5_dayBut ⟨Nat.le_of_ble_eq_true rfl, Nat.le_of_ble_eq_true rfl⟩) hP hK hD hS 0 4 rfl rfl rfl [0, 1] rfl (by decide) (fun _ => rfl) (fun u => wRo r ik tn u.2 ++ (wA cI (r 1) 100 u.1 ++ (wA cI (r 2) 100 K ++ (wA cI (r 3) 100 X ++ (wA cI (r 4) 100 T ++ (wA cI (r 5) 8 (fR F) ++ (wA cI (r 6) 120 TB ++ (wA cI (r 7) 4 (bR SB) ++ (wA cI (r 8) 4 SS ++ (wA cI (r 9) 160 SN)))))))))) (fun _ => rfl) rfl hl.1 rfl (Nat.le_of_ble_eq_true rfl) dX5_thin_45 ⟨Nat.le_of_ble_eq_true rfl, Nat.le_of_ble_eq_true rfl⟩ (fun u3 H locs hp4 hP hD hS => ?_)
            obtain ⟨T11, j12⟩ := u3
            replace hp4 : T11 = dyF 0 Tt := hp4
            have hP : va_P D vwCl (wRo r ik tn j12 ++ (wA cI (r 1) 100 T11 ++ (wA cI (r 2) 100 K ++ (wA cI (r 3) 100 X ++ (wA cI (r 4) 100 T ++ (wA cI (r 5) 8 (fR F) ++ (wA cI (r 6) 120 TB ++ (wA cI (r 7) 4 (bR SB) ++ (wA cI (r 8) 4 SS ++ (wA cI (r 9) 160 SN)))))))))) H := hP
            have hD : va_D A (wRo r ik tn j12 ++ (wA cI (r 1) 100 T11 ++ (wA cI (r 2) 100 K ++ (wA cI (r 3) 100 X ++ (wA cI (r 4) 100 T ++ (wA cI (r 5) 8 (fR F) ++ (wA cI (r 6) 120 TB ++ (wA cI (r 7) 4 (bR SB) ++ (wA cI (r 8) 4 SS ++ (wA cI (r 9) 160 SN)))))))))) := hD
            refine W.eq (g2 := F0 m 48 ls []) rfl ?_
            refine x_iinc hx hb 2 ((t + 1 : Nat) : Int) (by omega) [(2, .int (iI ((t + 1 : Nat) : Int))), (0, .ref (r 0)), (1, .int (iI ((p0 : Nat) : Int)))] dX5_thin_48 hl rfl (by decide) rfl (fun ls hl => ?_)
            refine lv_goto (tgt := 28) hx hb dX5_thin_51 (by decide) ?_
            exact ih (t + 1) T11 j12 _ _ _ (by omega) (by rw [← hr, fd_n (fdB_f (show ¬ (0 ≤ trF Tt p0 2 ∧ trF Tt p0 2 ≤ 0) by omega)), hp4]) (by rw [hp4, show B + ((t + 1 : Nat) : Int) = B + (t : Int) + 1 by omega]; exact (dyF_I hi0).1) (by rw [hp4, (dyF_I hi0).2.1]; exact h0) hP hD hS (lv_sub hl [1, 2, 0] rfl)
    exact L28 101 0 T j _ _ _ (by omega) rfl (by simpa using hI) rfl hP hD hS (lv_sub hl [1, 2, 0] rfl)
  · refine lv_aload_n hx hb dX5_thin_8 rfl (lv_at hl 0 rfl) ?_
    refine x_ldc hx hb (-1000001) rfl hown (hts (.constant RX5 37 (-1000001)) (by decide +kernel)) dX5_thin_9 ?_
    refine x_callV (As := [.int (iI (-1000001))]) (rest := []) ⟨hx, hb, hml, hown, hts⟩ (kX5_finds r ik tn j F (-1000001) 0 (by omega) (by omega)) (cwV 1 hts gX5_thin_X5_finds rfl rfl rfl ykVX5_finds ⟨Nat.le_of_ble_eq_true rfl, Nat.le_of_ble_eq_true rfl⟩) hP hK hD hS 0 4 rfl rfl rfl [0, 5] rfl (by decide) (fun _ => rfl) (fun _ => wRo r ik tn j ++ (wA cI (r 1) 100 T ++ (wA cI (r 2) 100 K ++ (wA cI (r 3) 100 X ++ (wA cI (r 4) 100 Y ++ (wA cI (r 5) 8 (fR (bmp 0 F)) ++ (wA cI (r 6) 120 TB ++ (wA cI (r 7) 4 (bR SB) ++ (wA cI (r 8) 4 SS ++ (wA cI (r 9) 160 SN)))))))))) (fun _ => rfl) rfl hl.1 rfl (Nat.le_of_ble_eq_true rfl) dX5_thin_11 ⟨Nat.le_of_ble_eq_true rfl, Nat.le_of_ble_eq_true rfl⟩ (fun _ H locs _ hP hD hS => ?_)
    refine W.eq (g2 := F0 m 14 ls [.int (iI (-1000001))]) rfl ?_
    exact kend (((-1000001), T, K, ik, SB, SS, SN, tn, TB, (bmp 0 F)), X, Y, j) hP hS rfl (if_neg (by omega)).symm dX5_thin_14
