theorem ykSX5_has3 : yX5_has3.cls ≠ "java/lang/invoke/MethodHandle" ∧ yX5_has3.cls ≠ "java/lang/invoke/VarHandle" ∧ (parseMethodDescriptor yX5_has3.desc).map (fun d => d.parameters.length) = some 4 := by decide +kernel
theorem ykVX5_has3 : yX5_has3.cls = RX5 ∧ yX5_has3.cls ≠ "java/lang/invoke/MethodHandle" ∧ yX5_has3.cls ≠ "java/lang/invoke/VarHandle" ∧ (parseMethodDescriptor yX5_has3.desc).map (fun d => d.parameters.length) = some 4 := ⟨rfl, ykSX5_has3⟩
set_option maxRecDepth 20000 in
theorem iT_X5_has3_X5 : ∀ w ∈ u_ws RX5 TX5 18, w ∈ wsX5_has3 := by decide +kernel
set_option maxHeartbeats 4000000 in
set_option maxRecDepth 100000 in
theorem kX5_has3 {l : Launch} {D : va_G} {cI cB : ClassId} (r : Nat → Nat) (ik : Int) (tn : Int) (b0 : Int) (b1 : Int) (ct : Int) (cf : Int) (ce : Int) (cv : Int) (fa : Int) (TB : Nat → Int) (i : Nat) (a : Int) (b : Int) (c0 : Int) (nn : Nat) (p : Tk) (hn : tn = ((nn : Nat) : Int)) (hn9 : nn ≤ 120) (hTB : ∀ i : Nat, i < 120 → 0 ≤ TB i ∧ TB i ≤ 255) (hp : tyR ct cf ce cv p) (hi : tkI nn p) (hi9 : i ≤ 10) (ha : rI a) (hbb : rI b) (hcc : rI c0) : Ct l yX5_has3 wsX5_has3 1 21 D [(cI, .int), (cB, .byte)] [.ref (r 0), .int (iI ((i : Nat) : Int)), .int (iI a), .int (iI b), .int (iI c0)] (wRo r ik tn (jk b0 b1 ct cf ce cv fa) ++ (wA cI (r 6) 120 TB)) (S := Unit) (fun _ => some (.int (iI (b2 (decide (((byF TB nn (p.2.1 + i) = a ∧ byF TB nn (p.2.1 + i + 1) = b) ∧ byF TB nn (p.2.1 + i + 2) = c0))))))) (fun _ => True) (fun _ => wRo r ik tn (jk b0 b1 ct cf ce cv fa) ++ (wA cI (r 6) 120 TB)) := by
  refine CtZ.of (cc := cX5_has3) (maxL := 5) (by decide +kernel) rfl (Nat.le_of_ble_eq_true rfl) ?_
  intro pg e s m args below meth c Q A hx hb hml hts hown hP hK hD hS ls hl kend
  have hown : s.vm.findClass RX5 = some m.cls := hown
  have hl : lv_has ls 5 [(0, .ref (r 0)), (1, .int (iI ((i : Nat) : Int))), (2, .int (iI a)), (3, .int (iI b)), (4, .int (iI c0))] := hl
  subst hn
  obtain ⟨rfl, rfl, rfl, hv_p⟩ := hp
  refine lv_aload_n hx hb dX5_has3_0 rfl (lv_at hl 0 rfl) ?_
  refine lv_aload_n hx hb dX5_has3_1 rfl (lv_at hl 0 rfl) ?_
  refine va_get (D := D) (ci := 4) (v := .int (iI ((p.2.1 : Nat) : Int))) (C := RX5) (T := TX5) (N := 18) hx hb hts (iT_X5_has3_X5) hown hK hP 0 rfl rfl 14 (by decide) (hts (.fieldLink RX5 205 "WordSupperModel" "from" "I") (by decide +kernel)) (fun _ h9 => h9) rfl dX5_has3_2 ?_
  refine lv_iload_n hx hb dX5_has3_5 rfl (lv_at hl 1 rfl) ?_
  refine x_iadd hx hb dX5_has3_6 ?_
  refine x_topi ((p.2.1 + i : Nat) : Int) (by omega) ?_
  have hb1 := by_c (i := p.2.1 + i) hTB hn9
  obtain ⟨z1, z2, z3, z4, z5, z6⟩ := id hi
  refine x_callV (As := [.int (iI ((p.2.1 + i : Nat) : Int))]) (rest := []) ⟨hx, hb, hml, hown, hts⟩ (kX5_byteAt r ik ((nn : Nat) : Int) b0 b1 p.1 ((p.2.1 : Nat) : Int) ((p.2.2.1 : Nat) : Int) cv fa TB (p.2.1 + i) nn rfl hn9 (by omega)) (cwV 1 hts gX5_has3_X5_byteAt rfl rfl rfl ykVX5_byteAt ⟨Nat.le_of_ble_eq_true rfl, Nat.le_of_ble_eq_true rfl⟩) hP hK hD hS 0 4 rfl rfl rfl [0, 1] rfl (by decide) (fun _ => rfl) (fun _ => wRo r ik ((nn : Nat) : Int) (jk b0 b1 p.1 ((p.2.1 : Nat) : Int) ((p.2.2.1 : Nat) : Int) cv fa) ++ (wA cI (r 6) 120 TB)) (fun _ => rfl) rfl hl.1 rfl (Nat.le_of_ble_eq_true rfl) dX5_has3_7 ⟨Nat.le_of_ble_eq_true rfl, Nat.le_of_ble_eq_true rfl⟩ (fun _ H locs _ hP hD hS => ?_)
  refine W.eq (g2 := F0 m 10 ls [.int (iI (byF TB nn (p.2.1 + i)))]) rfl ?_
  refine lv_iload_n hx hb dX5_has3_10 rfl (lv_at hl 2 rfl) ?_
  refine x_icmp_ne (tgt := 51) hx hb (by omega) (by omega) dX5_has3_11 (by decide) (fun c_11 => ?_) (fun c_11 => ?_)
  · refine x_iconst hx hb dX5_has3_51 ?_
    exact kend () hP hS (an_i (b2_f (by omega)).symm) trivial (by decide) dX5_has3_52
  · refine lv_aload_n hx hb dX5_has3_14 rfl (lv_at hl 0 rfl) ?_
    refine lv_aload_n hx hb dX5_has3_15 rfl (lv_at hl 0 rfl) ?_
    refine va_get (D := D) (ci := 4) (v := .int (iI ((p.2.1 : Nat) : Int))) (C := RX5) (T := TX5) (N := 18) hx hb hts (iT_X5_has3_X5) hown hK hP 0 rfl rfl 14 (by decide) (hts (.fieldLink RX5 205 "WordSupperModel" "from" "I") (by decide +kernel)) (fun _ h9 => h9) rfl dX5_has3_16 ?_
    refine lv_iload_n hx hb dX5_has3_19 rfl (lv_at hl 1 rfl) ?_
    refine x_iadd hx hb dX5_has3_20 ?_
    refine x_topi ((p.2.1 + i : Nat) : Int) (by omega) ?_
    refine x_iconst hx hb dX5_has3_21 ?_
    refine x_iadd hx hb dX5_has3_22 ?_
    refine x_topi (((p.2.1 + i) + 1 : Nat) : Int) (by omega) ?_
    have hb2 := by_c (i := p.2.1 + i + 1) hTB hn9
    refine x_callV (As := [.int (iI (((p.2.1 + i) + 1 : Nat) : Int))]) (rest := []) ⟨hx, hb, hml, hown, hts⟩ (kX5_byteAt r ik ((nn : Nat) : Int) b0 b1 p.1 ((p.2.1 : Nat) : Int) ((p.2.2.1 : Nat) : Int) cv fa TB ((p.2.1 + i) + 1) nn rfl hn9 (by omega)) (cwV 1 hts gX5_has3_X5_byteAt rfl rfl rfl ykVX5_byteAt ⟨Nat.le_of_ble_eq_true rfl, Nat.le_of_ble_eq_true rfl⟩) hP hK hD hS 0 4 rfl rfl rfl [0, 1] rfl (by decide) (fun _ => rfl) (fun _ => wRo r ik ((nn : Nat) : Int) (jk b0 b1 p.1 ((p.2.1 : Nat) : Int) ((p.2.2.1 : Nat) : Int) cv fa) ++ (wA cI (r 6) 120 TB)) (fun _ => rfl) rfl hl.1 rfl (Nat.le_of_ble_eq_true rfl) dX5_has3_23 ⟨Nat.le_of_ble_eq_true rfl, Nat.le_of_ble_eq_true rfl⟩ (fun _ H locs _ hP hD hS => ?_)
    refine W.eq (g2 := F0 m 26 ls [.int (iI (byF TB nn ((p.2.1 + i) + 1)))]) rfl ?_
    refine lv_iload_n hx hb dX5_has3_26 rfl (lv_at hl 3 rfl) ?_
    refine x_icmp_ne (tgt := 51) hx hb (by omega) (by omega) dX5_has3_27 (by decide) (fun c_27 => ?_) (fun c_27 => ?_)
    · refine x_iconst hx hb dX5_has3_51 ?_
      exact kend () hP hS (an_i (b2_f (by omega)).symm) trivial (by decide) dX5_has3_52
    · refine lv_aload_n hx hb dX5_has3_30 rfl (lv_at hl 0 rfl) ?_
      refine lv_aload_n hx hb dX5_has3_31 rfl (lv_at hl 0 rfl) ?_
      refine va_get (D := D) (ci := 4) (v := .int (iI ((p.2.1 : Nat) : Int))) (C := RX5) (T := TX5) (N := 18) hx hb hts (iT_X5_has3_X5) hown hK hP 0 rfl rfl 14 (by decide) (hts (.fieldLink RX5 205 "WordSupperModel" "from" "I") (by decide +kernel)) (fun _ h9 => h9) rfl dX5_has3_32 ?_
      refine lv_iload_n hx hb dX5_has3_35 rfl (lv_at hl 1 rfl) ?_
      refine x_iadd hx hb dX5_has3_36 ?_
      refine x_topi ((p.2.1 + i : Nat) : Int) (by omega) ?_
      refine x_iconst hx hb dX5_has3_37 ?_
      refine x_iadd hx hb dX5_has3_38 ?_
      refine x_topi (((p.2.1 + i) + 2 : Nat) : Int) (by omega) ?_
      have hb3 := by_c (i := p.2.1 + i + 2) hTB hn9
      refine x_callV (As := [.int (iI (((p.2.1 + i) + 2 : Nat) : Int))]) (rest := []) ⟨hx, hb, hml, hown, hts⟩ (kX5_byteAt r ik ((nn : Nat) : Int) b0 b1 p.1 ((p.2.1 : Nat) : Int) ((p.2.2.1 : Nat) : Int) cv fa TB ((p.2.1 + i) + 2) nn rfl hn9 (by omega)) (cwV 1 hts gX5_has3_X5_byteAt rfl rfl rfl ykVX5_byteAt ⟨Nat.le_of_ble_eq_true rfl, Nat.le_of_ble_eq_true rfl⟩) hP hK hD hS 0 4 rfl rfl rfl [0, 1] rfl (by decide) (fun _ => rfl) (fun _ => wRo r ik ((nn : Nat) : Int) (jk b0 b1 p.1 ((p.2.1 : Nat) : Int) ((p.2.2.1 : Nat) : Int) cv fa) ++ (wA cI (r 6) 120 TB)) (fun _ => rfl) rfl hl.1 rfl (Nat.le_of_ble_eq_true rfl) dX5_has3_39 ⟨Nat.le_of_ble_eq_true rfl, Nat.le_of_ble_eq_true rfl⟩ (fun _ H locs _ hP hD hS => ?_)
      refine W.eq (g2 := F0 m 42 ls [.int (iI (byF TB nn ((p.2.1 + i) + 2)))]) rfl ?_
      refine lv_iload hx hb dX5_has3_42 (lv_at hl 4 rfl) ?_
      refine x_icmp_ne (tgt := 51) hx hb (by omega) (by omega) dX5_has3_44 (by decide) (fun c_44 => ?_) (fun c_44 => ?_)
      · refine x_iconst hx hb dX5_has3_51 ?_
        exact kend () hP hS (an_i (b2_f (by omega)).symm) trivial (by decide) dX5_has3_52
      · refine x_iconst hx hb dX5_has3_47 ?_
        refine lv_goto (tgt := 52) hx hb dX5_has3_48 (by decide) ?_
        exact kend () hP hS (an_i (b2_t (by omega)).symm) trivial (by decide) dX5_has3_52
theorem ykSX5_isWord : yX5_isWord.cls ≠ "java/lang/invoke/MethodHandle" ∧ yX5_isWord.cls ≠ "java/lang/invoke/VarHandle" ∧ (parseMethodDescriptor yX5_isWord.desc).map (fun d => d.parameters.length) = some 1 := by decide +kernel
theorem ykVX5_isWord : yX5_isWord.cls = RX5 ∧ yX5_isWord.cls ≠ "java/lang/invoke/MethodHandle" ∧ yX5_isWord.cls ≠ "java/lang/invoke/VarHandle" ∧ (parseMethodDescriptor yX5_isWord.desc).map (fun d => d.parameters.length) = some 1 := ⟨rfl, ykSX5_isWord⟩
set_option maxRecDepth 20000 in
theorem iT_X5_isWord_X5 : ∀ w ∈ u_ws RX5 TX5 18, w ∈ wsX5_isWord := by decide +kernel
set_option maxHeartbeats 4000000 in
set_option maxRecDepth 100000 in
theorem kX5_isWord {l : Launch} {D : va_G} {cI cB : ClassId} (r : Nat → Nat) (ik : Int) (tn : Int) (b0 : Int) (b1 : Int) (ct : Int) (cf : Int) (ce : Int) (cv : Int) (fa : Int) (n : Nat) (nn : Nat) (p : Tk) (hp : tyR ct cf ce cv p) (hi : tkI nn p) (hn10 : n ≤ 10) (hn9 : nn ≤ 120) : Ct l yX5_isWord wsX5_isWord 0 0 D [(cI, .int), (cB, .byte)] [.ref (r 0), .int (iI ((n : Nat) : Int))] (wRo r ik tn (jk b0 b1 ct cf ce cv fa)) (S := Unit) (fun _ => some (.int (iI (b2 (decide ((p.1 = 1 ∧ p.2.2.1 = p.2.1 + n))))))) (fun _ => True) (fun _ => wRo r ik tn (jk b0 b1 ct cf ce cv fa)) := by
  refine CtZ.of (cc := cX5_isWord) (maxL := 2) (by decide +kernel) rfl (Nat.le_of_ble_eq_true rfl) ?_
  intro pg e s m args below meth c Q A hx hb hml hts hown hP hK hD hS ls hl kend
  have hown : s.vm.findClass RX5 = some m.cls := hown
  have hl : lv_has ls 2 [(0, .ref (r 0)), (1, .int (iI ((n : Nat) : Int)))] := hl
  obtain ⟨rfl, rfl, rfl, hv_p⟩ := hp
  refine lv_aload_n hx hb dX5_isWord_0 rfl (lv_at hl 0 rfl) ?_
  obtain ⟨z1, z2, z3, z4, z5, z6⟩ := id hi
  refine va_get (D := D) (ci := 4) (v := .int (iI p.1)) (C := RX5) (T := TX5) (N := 18) hx hb hts (iT_X5_isWord_X5) hown hK hP 0 rfl rfl 13 (by decide) (hts (.fieldLink RX5 217 "WordSupperModel" "token" "I") (by decide +kernel)) (fun _ h9 => h9) rfl dX5_isWord_1 ?_
  refine x_iconst hx hb dX5_isWord_4 ?_
  refine x_icmp_ne (tgt := 25) hx hb (by omega) (by decide) dX5_isWord_5 (by decide) (fun c_5 => ?_) (fun c_5 => ?_)
  · refine x_iconst hx hb dX5_isWord_25 ?_
    exact kend () hP hS (an_i (b2_f (by omega)).symm) trivial (by decide) dX5_isWord_26
  · refine lv_aload_n hx hb dX5_isWord_8 rfl (lv_at hl 0 rfl) ?_
    refine va_get (D := D) (ci := 4) (v := .int (iI ((p.2.2.1 : Nat) : Int))) (C := RX5) (T := TX5) (N := 18) hx hb hts (iT_X5_isWord_X5) hown hK hP 0 rfl rfl 15 (by decide) (hts (.fieldLink RX5 202 "WordSupperModel" "to" "I") (by decide +kernel)) (fun _ h9 => h9) rfl dX5_isWord_9 ?_
    refine lv_aload_n hx hb dX5_isWord_12 rfl (lv_at hl 0 rfl) ?_
    refine va_get (D := D) (ci := 4) (v := .int (iI ((p.2.1 : Nat) : Int))) (C := RX5) (T := TX5) (N := 18) hx hb hts (iT_X5_isWord_X5) hown hK hP 0 rfl rfl 14 (by decide) (hts (.fieldLink RX5 205 "WordSupperModel" "from" "I") (by decide +kernel)) (fun _ h9 => h9) rfl dX5_isWord_13 ?_
    refine x_isub hx hb dX5_isWord_16 ?_
    refine lv_iload_n hx hb dX5_isWord_17 rfl (lv_at hl 1 rfl) ?_
    refine x_icmp_ne (tgt := 25) hx hb (by omega) (by omega) dX5_isWord_18 (by decide) (fun c_18 => ?_) (fun c_18 => ?_)
    · refine x_iconst hx hb dX5_isWord_25 ?_
      exact kend () hP hS (an_i (b2_f (by omega)).symm) trivial (by decide) dX5_isWord_26
    · refine x_iconst hx hb dX5_isWord_21 ?_
      refine lv_goto (tgt := 26) hx hb dX5_isWord_22 (by decide) ?_
      exact kend () hP hS (an_i (b2_t (by omega)).symm) trivial (by decide) dX5_isWord_26
theorem ykSX5_fails : yX5_fails.cls ≠ "java/lang/invoke/MethodHandle" ∧ yX5_fails.cls ≠ "java/lang/invoke/VarHandle" ∧ (parseMethodDescriptor yX5_fails.desc).map (fun d => d.parameters.length) = some 0 := by decide +kernel
theorem ykVX5_fails : yX5_fails.cls = RX5 ∧ yX5_fails.cls ≠ "java/lang/invoke/MethodHandle" ∧ yX5_fails.cls ≠ "java/lang/invoke/VarHandle" ∧ (parseMethodDescriptor yX5_fails.desc).map (fun d => d.parameters.length) = some 0 := ⟨rfl, ykSX5_fails⟩
set_option maxRecDepth 20000 in
theorem iT_X5_fails_X5 : ∀ w ∈ u_ws RX5 TX5 18, w ∈ wsX5_fails := by decide +kernel
set_option maxHeartbeats 4000000 in
set_option maxRecDepth 100000 in
theorem kX5_fails {l : Launch} {D : va_G} {cI cB : ClassId} (r : Nat → Nat) (ik : Int) (tn : Int) (b0 : Int) (b1 : Int) (ct : Int) (cf : Int) (ce : Int) (cv : Int) (fa : Int) (nn : Nat) (p : Tk) (hp : tyR ct cf ce cv p) (hi : tkI nn p) : Ct l yX5_fails wsX5_fails 0 0 D [(cI, .int), (cB, .byte)] [.ref (r 0)] (wRo r ik tn (jk b0 b1 ct cf ce cv fa)) (S := Unit) (fun _ => some (.int (iI 0))) (fun _ => True) (fun _ => wRo r ik tn (jk b0 b1 ct cf ce cv ((p.2.1 : Nat) : Int))) := by
  refine CtZ.of (cc := cX5_fails) (maxL := 1) (by decide +kernel) rfl (Nat.le_of_ble_eq_true rfl) ?_
  intro pg e s m args below meth c Q A hx hb hml hts hown hP hK hD hS ls hl kend
  have hown : s.vm.findClass RX5 = some m.cls := hown
  have hl : lv_has ls 1 [(0, .ref (r 0))] := hl
  obtain ⟨rfl, rfl, rfl, hv_p⟩ := hp
  refine lv_aload_n hx hb dX5_fails_0 rfl (lv_at hl 0 rfl) ?_
  refine lv_aload_n hx hb dX5_fails_1 rfl (lv_at hl 0 rfl) ?_
  refine va_get (D := D) (ci := 4) (v := .int (iI ((p.2.1 : Nat) : Int))) (C := RX5) (T := TX5) (N := 18) hx hb hts (iT_X5_fails_X5) hown hK hP 0 rfl rfl 14 (by decide) (hts (.fieldLink RX5 205 "WordSupperModel" "from" "I") (by decide +kernel)) (fun _ h9 => h9) rfl dX5_fails_2 ?_
  refine x_putI (D := D) (ty := .int) (C := RX5) (T := TX5) (N := 18) hx hb 4 hts (iT_X5_fails_X5) tyX5 tyX5_ok nmX5 hown hK hP hD hS 0 rfl rfl 17 (by decide) (hts (.fieldLink RX5 223 "WordSupperModel" "faultAt" "I") (by decide +kernel)) (fun _ h9 => h9) rfl (by decide +kernel) rfl rfl (Nat.le_of_ble_eq_true rfl) (wRo r ik tn (jk b0 b1 p.1 ((p.2.1 : Nat) : Int) ((p.2.2.1 : Nat) : Int) cv ((p.2.1 : Nat) : Int))) (rfl) dX5_fails_5 (fun H locs hP hD hS => ?_)
  refine x_iconst hx hb dX5_fails_8 ?_
  exact kend () hP hS rfl trivial (by decide) dX5_fails_9
theorem ykSX5_isFour : yX5_isFour.cls ≠ "java/lang/invoke/MethodHandle" ∧ yX5_isFour.cls ≠ "java/lang/invoke/VarHandle" ∧ (parseMethodDescriptor yX5_isFour.desc).map (fun d => d.parameters.length) = some 4 := by decide +kernel
theorem ykVX5_isFour : yX5_isFour.cls = RX5 ∧ yX5_isFour.cls ≠ "java/lang/invoke/MethodHandle" ∧ yX5_isFour.cls ≠ "java/lang/invoke/VarHandle" ∧ (parseMethodDescriptor yX5_isFour.desc).map (fun d => d.parameters.length) = some 4 := ⟨rfl, ykSX5_isFour⟩
set_option maxHeartbeats 4000000 in
set_option maxRecDepth 100000 in
theorem kX5_isFour {l : Launch} {D : va_G} {cI cB : ClassId} (r : Nat → Nat) (ik : Int) (tn : Int) (b0 : Int) (b1 : Int) (ct : Int) (cf : Int) (ce : Int) (cv : Int) (fa : Int) (TB : Nat → Int) (a : Int) (b : Int) (c0 : Int) (d0 : Int) (nn : Nat) (p : Tk) (hn : tn = ((nn : Nat) : Int)) (hn9 : nn ≤ 120) (hTB : ∀ i : Nat, i < 120 → 0 ≤ TB i ∧ TB i ≤ 255) (hp : tyR ct cf ce cv p) (hi : tkI nn p) (h_a : rI a) (h_b : rI b) (h_c0 : rI c0) (h_d0 : rI d0) : Ct l yX5_isFour wsX5_isFour 2 45 D [(cI, .int), (cB, .byte)] [.ref (r 0), .int (iI a), .int (iI b), .int (iI c0), .int (iI d0)] (wRo r ik tn (jk b0 b1 ct cf ce cv fa) ++ (wA cI (r 6) 120 TB)) (S := Unit) (fun _ => some (.int (iI (b2 (decide (wdB TB p [a, b, c0, d0] = true)))))) (fun _ => True) (fun _ => wRo r ik tn (jk b0 b1 ct cf ce cv fa) ++ (wA cI (r 6) 120 TB)) := by
  refine CtZ.of (cc := cX5_isFour) (maxL := 5) (by decide +kernel) rfl (Nat.le_of_ble_eq_true rfl) ?_
  intro pg e s m args below meth c Q A hx hb hml hts hown hP hK hD hS ls hl kend
  have hown : s.vm.findClass RX5 = some m.cls := hown
  have hl : lv_has ls 5 [(0, .ref (r 0)), (1, .int (iI a)), (2, .int (iI b)), (3, .int (iI c0)), (4, .int (iI d0))] := hl
  subst hn
  obtain ⟨rfl, rfl, rfl, hv_p⟩ := hp
  refine lv_aload_n hx hb dX5_isFour_0 rfl (lv_at hl 0 rfl) ?_
  refine x_iconst hx hb dX5_isFour_1 ?_
  refine x_callV (As := [.int (iI 4)]) (rest := []) ⟨hx, hb, hml, hown, hts⟩ (kX5_isWord r ik ((nn : Nat) : Int) b0 b1 p.1 ((p.2.1 : Nat) : Int) ((p.2.2.1 : Nat) : Int) cv fa 4 nn p ⟨rfl, rfl, rfl, hv_p⟩ hi (by omega) hn9) (cwV 1 hts gX5_isFour_X5_isWord rfl rfl rfl ykVX5_isWord ⟨Nat.le_of_ble_eq_true rfl, Nat.le_of_ble_eq_true rfl⟩) hP hK hD hS 0 4 rfl rfl rfl [0] rfl (by decide) (fun _ => rfl) (fun _ => wRo r ik ((nn : Nat) : Int) (jk b0 b1 p.1 ((p.2.1 : Nat) : Int) ((p.2.2.1 : Nat) : Int) cv fa) ++ (wA cI (r 6) 120 TB)) (fun _ => rfl) rfl hl.1 rfl (Nat.le_of_ble_eq_true rfl) dX5_isFour_2 ⟨Nat.le_of_ble_eq_true rfl, Nat.le_of_ble_eq_true rfl⟩ (fun _ H locs _ hP hD hS => ?_)
  refine W.eq (g2 := F0 m 5 ls [.int (iI (b2 (decide ((p.1 = 1 ∧ p.2.2.1 = p.2.1 + 4)))))]) rfl ?_
  refine x_ifb_eq (tgt := 35) hx hb dX5_isFour_5 (by decide) (fun c_5 => ?_) (fun c_5 => ?_)
  · refine x_iconst hx hb dX5_isFour_35 ?_
    exact kend () hP hS (an_i (b2_f (fun q9 => c_5 (((wd_4 hi).mpr q9).1))).symm) trivial (by decide) dX5_isFour_36
  · refine lv_aload_n hx hb dX5_isFour_8 rfl (lv_at hl 0 rfl) ?_
    refine x_iconst hx hb dX5_isFour_9 ?_
    refine lv_iload_n hx hb dX5_isFour_10 rfl (lv_at hl 1 rfl) ?_
    refine lv_iload_n hx hb dX5_isFour_11 rfl (lv_at hl 2 rfl) ?_
    refine lv_iload_n hx hb dX5_isFour_12 rfl (lv_at hl 3 rfl) ?_
    refine x_callV (As := [.int (iI 0), .int (iI a), .int (iI b), .int (iI c0)]) (rest := []) ⟨hx, hb, hml, hown, hts⟩ (kX5_has3 r ik ((nn : Nat) : Int) b0 b1 p.1 ((p.2.1 : Nat) : Int) ((p.2.2.1 : Nat) : Int) cv fa TB 0 a b c0 nn p rfl hn9 hTB ⟨rfl, rfl, rfl, hv_p⟩ hi (by omega) (by omega) (by omega) (by omega)) (cwV 4 hts gX5_isFour_X5_has3 rfl rfl rfl ykVX5_has3 ⟨Nat.le_of_ble_eq_true rfl, Nat.le_of_ble_eq_true rfl⟩) hP hK hD hS 0 4 rfl rfl rfl [0, 1] rfl (by decide) (fun _ => rfl) (fun _ => wRo r ik ((nn : Nat) : Int) (jk b0 b1 p.1 ((p.2.1 : Nat) : Int) ((p.2.2.1 : Nat) : Int) cv fa) ++ (wA cI (r 6) 120 TB)) (fun _ => rfl) rfl hl.1 rfl (Nat.le_of_ble_eq_true rfl) dX5_isFour_13 ⟨Nat.le_of_ble_eq_true rfl, Nat.le_of_ble_eq_true rfl⟩ (fun _ H locs _ hP hD hS => ?_)
    refine W.eq (g2 := F0 m 16 ls [.int (iI (b2 (decide (((byF TB nn (p.2.1 + 0) = a ∧ byF TB nn (p.2.1 + 0 + 1) = b) ∧ byF TB nn (p.2.1 + 0 + 2) = c0)))))]) rfl ?_
    refine x_ifb_eq (tgt := 35) hx hb dX5_isFour_16 (by decide) (fun c_16 => ?_) (fun c_16 => ?_)
    · refine x_iconst hx hb dX5_isFour_35 ?_
      exact kend () hP hS (an_i (b2_f (fun q9 => c_16 (((wd_4 hi).mpr q9).2.1))).symm) trivial (by decide) dX5_isFour_36
    · refine lv_aload_n hx hb dX5_isFour_19 rfl (lv_at hl 0 rfl) ?_
      refine x_iconst hx hb dX5_isFour_20 ?_
      refine lv_iload_n hx hb dX5_isFour_21 rfl (lv_at hl 2 rfl) ?_
      refine lv_iload_n hx hb dX5_isFour_22 rfl (lv_at hl 3 rfl) ?_
      refine lv_iload hx hb dX5_isFour_23 (lv_at hl 4 rfl) ?_
      refine x_callV (As := [.int (iI 1), .int (iI b), .int (iI c0), .int (iI d0)]) (rest := []) ⟨hx, hb, hml, hown, hts⟩ (kX5_has3 r ik ((nn : Nat) : Int) b0 b1 p.1 ((p.2.1 : Nat) : Int) ((p.2.2.1 : Nat) : Int) cv fa TB 1 b c0 d0 nn p rfl hn9 hTB ⟨rfl, rfl, rfl, hv_p⟩ hi (by omega) (by omega) (by omega) (by omega)) (cwV 4 hts gX5_isFour_X5_has3 rfl rfl rfl ykVX5_has3 ⟨Nat.le_of_ble_eq_true rfl, Nat.le_of_ble_eq_true rfl⟩) hP hK hD hS 0 4 rfl rfl rfl [0, 1] rfl (by decide) (fun _ => rfl) (fun _ => wRo r ik ((nn : Nat) : Int) (jk b0 b1 p.1 ((p.2.1 : Nat) : Int) ((p.2.2.1 : Nat) : Int) cv fa) ++ (wA cI (r 6) 120 TB)) (fun _ => rfl) rfl hl.1 rfl (Nat.le_of_ble_eq_true rfl) dX5_isFour_25 ⟨Nat.le_of_ble_eq_true rfl, Nat.le_of_ble_eq_true rfl⟩ (fun _ H locs _ hP hD hS => ?_)
      refine W.eq (g2 := F0 m 28 ls [.int (iI (b2 (decide (((byF TB nn (p.2.1 + 1) = b ∧ byF TB nn (p.2.1 + 1 + 1) = c0) ∧ byF TB nn (p.2.1 + 1 + 2) = d0)))))]) rfl ?_
      refine x_ifb_eq (tgt := 35) hx hb dX5_isFour_28 (by decide) (fun c_28 => ?_) (fun c_28 => ?_)
      · refine x_iconst hx hb dX5_isFour_35 ?_
        exact kend () hP hS (an_i (b2_f (fun q9 => c_28 (((wd_4 hi).mpr q9).2.2))).symm) trivial (by decide) dX5_isFour_36
      · refine x_iconst hx hb dX5_isFour_31 ?_
        refine lv_goto (tgt := 36) hx hb dX5_isFour_32 (by decide) ?_
        exact kend () hP hS (an_i (b2_t ((wd_4 hi).mp ⟨c_5, c_16, c_28⟩)).symm) trivial (by decide) dX5_isFour_36
theorem ykSX5_isFive : yX5_isFive.cls ≠ "java/lang/invoke/MethodHandle" ∧ yX5_isFive.cls ≠ "java/lang/invoke/VarHandle" ∧ (parseMethodDescriptor yX5_isFive.desc).map (fun d => d.parameters.length) = some 5 := by decide +kernel
theorem ykVX5_isFive : yX5_isFive.cls = RX5 ∧ yX5_isFive.cls ≠ "java/lang/invoke/MethodHandle" ∧ yX5_isFive.cls ≠ "java/lang/invoke/VarHandle" ∧ (parseMethodDescriptor yX5_isFive.desc).map (fun d => d.parameters.length) = some 5 := ⟨rfl, ykSX5_isFive⟩
set_option maxHeartbeats 4000000 in
set_option maxRecDepth 100000 in
theorem kX5_isFive {l : Launch} {D : va_G} {cI cB : ClassId} (r : Nat → Nat) (ik : Int) (tn : Int) (b0 : Int) (b1 : Int) (ct : Int) (cf : Int) (ce : Int) (cv : Int) (fa : Int) (TB : Nat → Int) (a : Int) (b : Int) (c0 : Int) (d0 : Int) (e1 : Int) (nn : Nat) (p : Tk) (hn : tn = ((nn : Nat) : Int)) (hn9 : nn ≤ 120) (hTB : ∀ i : Nat, i < 120 → 0 ≤ TB i ∧ TB i ≤ 255) (hp : tyR ct cf ce cv p) (hi : tkI nn p) (h_a : rI a) (h_b : rI b) (h_c0 : rI c0) (h_d0 : rI d0) (h_e1 : rI e1) : Ct l yX5_isFive wsX5_isFive 2 45 D [(cI, .int), (cB, .byte)] [.ref (r 0), .int (iI a), .int (iI b), .int (iI c0), .int (iI d0), .int (iI e1)] (wRo r ik tn (jk b0 b1 ct cf ce cv fa) ++ (wA cI (r 6) 120 TB)) (S := Unit) (fun _ => some (.int (iI (b2 (decide (wdB TB p [a, b, c0, d0, e1] = true)))))) (fun _ => True) (fun _ => wRo r ik tn (jk b0 b1 ct cf ce cv fa) ++ (wA cI (r 6) 120 TB)) := by
  refine CtZ.of (cc := cX5_isFive) (maxL := 6) (by decide +kernel) rfl (Nat.le_of_ble_eq_true rfl) ?_
  intro pg e s m args below meth c Q A hx hb hml hts hown hP hK hD hS ls hl kend
  have hown : s.vm.findClass RX5 = some m.cls := hown
  have hl : lv_has ls 6 [(0, .ref (r 0)), (1, .int (iI a)), (2, .int (iI b)), (3, .int (iI c0)), (4, .int (iI d0)), (5, .int (iI e1))] := hl
  subst hn
  obtain ⟨rfl, rfl, rfl, hv_p⟩ := hp
  refine lv_aload_n hx hb dX5_isFive_0 rfl (lv_at hl 0 rfl) ?_
  refine x_iconst hx hb dX5_isFive_1 ?_
  refine x_callV (As := [.int (iI 5)]) (rest := []) ⟨hx, hb, hml, hown, hts⟩ (kX5_isWord r ik ((nn : Nat) : Int) b0 b1 p.1 ((p.2.1 : Nat) : Int) ((p.2.2.1 : Nat) : Int) cv fa 5 nn p ⟨rfl, rfl, rfl, hv_p⟩ hi (by omega) hn9) (cwV 1 hts gX5_isFive_X5_isWord rfl rfl rfl ykVX5_isWord ⟨Nat.le_of_ble_eq_true rfl, Nat.le_of_ble_eq_true rfl⟩) hP hK hD hS 0 4 rfl rfl rfl [0] rfl (by decide) (fun _ => rfl) (fun _ => wRo r ik ((nn : Nat) : Int) (jk b0 b1 p.1 ((p.2.1 : Nat) : Int) ((p.2.2.1 : Nat) : Int) cv fa) ++ (wA cI (r 6) 120 TB)) (fun _ => rfl) rfl hl.1 rfl (Nat.le_of_ble_eq_true rfl) dX5_isFive_2 ⟨Nat.le_of_ble_eq_true rfl, Nat.le_of_ble_eq_true rfl⟩ (fun _ H locs _ hP hD hS => ?_)
  refine W.eq (g2 := F0 m 5 ls [.int (iI (b2 (decide ((p.1 = 1 ∧ p.2.2.1 = p.2.1 + 5)))))]) rfl ?_
  refine x_ifb_eq (tgt := 36) hx hb dX5_isFive_5 (by decide) (fun c_5 => ?_) (fun c_5 => ?_)
  · refine x_iconst hx hb dX5_isFive_36 ?_
    exact kend () hP hS (an_i (b2_f (fun q9 => c_5 (((wd_5 hi).mpr q9).1))).symm) trivial (by decide) dX5_isFive_37
  · refine lv_aload_n hx hb dX5_isFive_8 rfl (lv_at hl 0 rfl) ?_
    refine x_iconst hx hb dX5_isFive_9 ?_
    refine lv_iload_n hx hb dX5_isFive_10 rfl (lv_at hl 1 rfl) ?_
    refine lv_iload_n hx hb dX5_isFive_11 rfl (lv_at hl 2 rfl) ?_
    refine lv_iload_n hx hb dX5_isFive_12 rfl (lv_at hl 3 rfl) ?_
    refine x_callV (As := [.int (iI 0), .int (iI a), .int (iI b), .int (iI c0)]) (rest := []) ⟨hx, hb, hml, hown, hts⟩ (kX5_has3 r ik ((nn : Nat) : Int) b0 b1 p.1 ((p.2.1 : Nat) : Int) ((p.2.2.1 : Nat) : Int) cv fa TB 0 a b c0 nn p rfl hn9 hTB ⟨rfl, rfl, rfl, hv_p⟩ hi (by omega) (by omega) (by omega) (by omega)) (cwV 4 hts gX5_isFive_X5_has3 rfl rfl rfl ykVX5_has3 ⟨Nat.le_of_ble_eq_true rfl, Nat.le_of_ble_eq_true rfl⟩) hP hK hD hS 0 4 rfl rfl rfl [0, 1] rfl (by decide) (fun _ => rfl) (fun _ => wRo r ik ((nn : Nat) : Int) (jk b0 b1 p.1 ((p.2.1 : Nat) : Int) ((p.2.2.1 : Nat) : Int) cv fa) ++ (wA cI (r 6) 120 TB)) (fun _ => rfl) rfl hl.1 rfl (Nat.le_of_ble_eq_true rfl) dX5_isFive_13 ⟨Nat.le_of_ble_eq_true rfl, Nat.le_of_ble_eq_true rfl⟩ (fun _ H locs _ hP hD hS => ?_)
    refine W.eq (g2 := F0 m 16 ls [.int (iI (b2 (decide (((byF TB nn (p.2.1 + 0) = a ∧ byF TB nn (p.2.1 + 0 + 1) = b) ∧ byF TB nn (p.2.1 + 0 + 2) = c0)))))]) rfl ?_
    refine x_ifb_eq (tgt := 36) hx hb dX5_isFive_16 (by decide) (fun c_16 => ?_) (fun c_16 => ?_)
    · refine x_iconst hx hb dX5_isFive_36 ?_
      exact kend () hP hS (an_i (b2_f (fun q9 => c_16 (((wd_5 hi).mpr q9).2.1))).symm) trivial (by decide) dX5_isFive_37
    · refine lv_aload_n hx hb dX5_isFive_19 rfl (lv_at hl 0 rfl) ?_
      refine x_iconst hx hb dX5_isFive_20 ?_
      refine lv_iload_n hx hb dX5_isFive_21 rfl (lv_at hl 3 rfl) ?_
      refine lv_iload hx hb dX5_isFive_22 (lv_at hl 4 rfl) ?_
      refine lv_iload hx hb dX5_isFive_24 (lv_at hl 5 rfl) ?_
      refine x_callV (As := [.int (iI 2), .int (iI c0), .int (iI d0), .int (iI e1)]) (rest := []) ⟨hx, hb, hml, hown, hts⟩ (kX5_has3 r ik ((nn : Nat) : Int) b0 b1 p.1 ((p.2.1 : Nat) : Int) ((p.2.2.1 : Nat) : Int) cv fa TB 2 c0 d0 e1 nn p rfl hn9 hTB ⟨rfl, rfl, rfl, hv_p⟩ hi (by omega) (by omega) (by omega) (by omega)) (cwV 4 hts gX5_isFive_X5_has3 rfl rfl rfl ykVX5_has3 ⟨Nat.le_of_ble_eq_true rfl, Nat.le_of_ble_eq_true rfl⟩) hP hK hD hS 0 4 rfl rfl rfl [0, 1] rfl (by decide) (fun _ => rfl) (fun _ => wRo r ik ((nn : Nat) : Int) (jk b0 b1 p.1 ((p.2.1 : Nat) : Int) ((p.2.2.1 : Nat) : Int) cv fa) ++ (wA cI (r 6) 120 TB)) (fun _ => rfl) rfl hl.1 rfl (Nat.le_of_ble_eq_true rfl) dX5_isFive_26 ⟨Nat.le_of_ble_eq_true rfl, Nat.le_of_ble_eq_true rfl⟩ (fun _ H locs _ hP hD hS => ?_)
      refine W.eq (g2 := F0 m 29 ls [.int (iI (b2 (decide (((byF TB nn (p.2.1 + 2) = c0 ∧ byF TB nn (p.2.1 + 2 + 1) = d0) ∧ byF TB nn (p.2.1 + 2 + 2) = e1)))))]) rfl ?_
      refine x_ifb_eq (tgt := 36) hx hb dX5_isFive_29 (by decide) (fun c_29 => ?_) (fun c_29 => ?_)
      · refine x_iconst hx hb dX5_isFive_36 ?_
        exact kend () hP hS (an_i (b2_f (fun q9 => c_29 (((wd_5 hi).mpr q9).2.2))).symm) trivial (by decide) dX5_isFive_37
      · refine x_iconst hx hb dX5_isFive_32 ?_
        refine lv_goto (tgt := 37) hx hb dX5_isFive_33 (by decide) ?_
        exact kend () hP hS (an_i (b2_t ((wd_5 hi).mp ⟨c_5, c_16, c_29⟩)).symm) trivial (by decide) dX5_isFive_37
theorem ykSX5_isSix : yX5_isSix.cls ≠ "java/lang/invoke/MethodHandle" ∧ yX5_isSix.cls ≠ "java/lang/invoke/VarHandle" ∧ (parseMethodDescriptor yX5_isSix.desc).map (fun d => d.parameters.length) = some 6 := by decide +kernel
theorem ykVX5_isSix : yX5_isSix.cls = RX5 ∧ yX5_isSix.cls ≠ "java/lang/invoke/MethodHandle" ∧ yX5_isSix.cls ≠ "java/lang/invoke/VarHandle" ∧ (parseMethodDescriptor yX5_isSix.desc).map (fun d => d.parameters.length) = some 6 := ⟨rfl, ykSX5_isSix⟩
set_option maxHeartbeats 4000000 in
set_option maxRecDepth 100000 in
theorem kX5_isSix {l : Launch} {D : va_G} {cI cB : ClassId} (r : Nat → Nat) (ik : Int) (tn : Int) (b0 : Int) (b1 : Int) (ct : Int) (cf : Int) (ce : Int) (cv : Int) (fa : Int) (TB : Nat → Int) (a : Int) (b : Int) (c0 : Int) (d0 : Int) (e1 : Int) (f1 : Int) (nn : Nat) (p : Tk) (hn : tn = ((nn : Nat) : Int)) (hn9 : nn ≤ 120) (hTB : ∀ i : Nat, i < 120 → 0 ≤ TB i ∧ TB i ≤ 255) (hp : tyR ct cf ce cv p) (hi : tkI nn p) (h_a : rI a) (h_b : rI b) (h_c0 : rI c0) (h_d0 : rI d0) (h_e1 : rI e1) (h_f1 : rI f1) : Ct l yX5_isSix wsX5_isSix 2 45 D [(cI, .int), (cB, .byte)] [.ref (r 0), .int (iI a), .int (iI b), .int (iI c0), .int (iI d0), .int (iI e1), .int (iI f1)] (wRo r ik tn (jk b0 b1 ct cf ce cv fa) ++ (wA cI (r 6) 120 TB)) (S := Unit) (fun _ => some (.int (iI (b2 (decide (wdB TB p [a, b, c0, d0, e1, f1] = true)))))) (fun _ => True) (fun _ => wRo r ik tn (jk b0 b1 ct cf ce cv fa) ++ (wA cI (r 6) 120 TB)) := by
  refine CtZ.of (cc := cX5_isSix) (maxL := 7) (by decide +kernel) rfl (Nat.le_of_ble_eq_true rfl) ?_
  intro pg e s m args below meth c Q A hx hb hml hts hown hP hK hD hS ls hl kend
  have hown : s.vm.findClass RX5 = some m.cls := hown
  have hl : lv_has ls 7 [(0, .ref (r 0)), (1, .int (iI a)), (2, .int (iI b)), (3, .int (iI c0)), (4, .int (iI d0)), (5, .int (iI e1)), (6, .int (iI f1))] := hl
  subst hn
  obtain ⟨rfl, rfl, rfl, hv_p⟩ := hp
  refine lv_aload_n hx hb dX5_isSix_0 rfl (lv_at hl 0 rfl) ?_
  refine x_bipush hx hb dX5_isSix_1 (by decide) ?_
  refine x_callV (As := [.int (iI 6)]) (rest := []) ⟨hx, hb, hml, hown, hts⟩ (kX5_isWord r ik ((nn : Nat) : Int) b0 b1 p.1 ((p.2.1 : Nat) : Int) ((p.2.2.1 : Nat) : Int) cv fa 6 nn p ⟨rfl, rfl, rfl, hv_p⟩ hi (by omega) hn9) (cwV 1 hts gX5_isSix_X5_isWord rfl rfl rfl ykVX5_isWord ⟨Nat.le_of_ble_eq_true rfl, Nat.le_of_ble_eq_true rfl⟩) hP hK hD hS 0 4 rfl rfl rfl [0] rfl (by decide) (fun _ => rfl) (fun _ => wRo r ik ((nn : Nat) : Int) (jk b0 b1 p.1 ((p.2.1 : Nat) : Int) ((p.2.2.1 : Nat) : Int) cv fa) ++ (wA cI (r 6) 120 TB)) (fun _ => rfl) rfl hl.1 rfl (Nat.le_of_ble_eq_true rfl) dX5_isSix_3 ⟨Nat.le_of_ble_eq_true rfl, Nat.le_of_ble_eq_true rfl⟩ (fun _ H locs _ hP hD hS => ?_)
  refine W.eq (g2 := F0 m 6 ls [.int (iI (b2 (decide ((p.1 = 1 ∧ p.2.2.1 = p.2.1 + 6)))))]) rfl ?_
  refine x_ifb_eq (tgt := 38) hx hb dX5_isSix_6 (by decide) (fun c_6 => ?_) (fun c_6 => ?_)
  · refine x_iconst hx hb dX5_isSix_38 ?_
    exact kend () hP hS (an_i (b2_f (fun q9 => c_6 (((wd_6 hi).mpr q9).1))).symm) trivial (by decide) dX5_isSix_39
  · refine lv_aload_n hx hb dX5_isSix_9 rfl (lv_at hl 0 rfl) ?_
    refine x_iconst hx hb dX5_isSix_10 ?_
    refine lv_iload_n hx hb dX5_isSix_11 rfl (lv_at hl 1 rfl) ?_
    refine lv_iload_n hx hb dX5_isSix_12 rfl (lv_at hl 2 rfl) ?_
    refine lv_iload_n hx hb dX5_isSix_13 rfl (lv_at hl 3 rfl) ?_
    refine x_callV (As := [.int (iI 0), .int (iI a), .int (iI b), .int (iI c0)]) (rest := []) ⟨hx, hb, hml, hown, hts⟩ (kX5_has3 r ik ((nn : Nat) : Int) b0 b1 p.1 ((p.2.1 : Nat) : Int) ((p.2.2.1 : Nat) : Int) cv fa TB 0 a b c0 nn p rfl hn9 hTB ⟨rfl, rfl, rfl, hv_p⟩ hi (by omega) (by omega) (by omega) (by omega)) (cwV 4 hts gX5_isSix_X5_has3 rfl rfl rfl ykVX5_has3 ⟨Nat.le_of_ble_eq_true rfl, Nat.le_of_ble_eq_true rfl⟩) hP hK hD hS 0 4 rfl rfl rfl [0, 1] rfl (by decide) (fun _ => rfl) (fun _ => wRo r ik ((nn : Nat) : Int) (jk b0 b1 p.1 ((p.2.1 : Nat) : Int) ((p.2.2.1 : Nat) : Int) cv fa) ++ (wA cI (r 6) 120 TB)) (fun _ => rfl) rfl hl.1 rfl (Nat.le_of_ble_eq_true rfl) dX5_isSix_14 ⟨Nat.le_of_ble_eq_true rfl, Nat.le_of_ble_eq_true rfl⟩ (fun _ H locs _ hP hD hS => ?_)
    refine W.eq (g2 := F0 m 17 ls [.int (iI (b2 (decide (((byF TB nn (p.2.1 + 0) = a ∧ byF TB nn (p.2.1 + 0 + 1) = b) ∧ byF TB nn (p.2.1 + 0 + 2) = c0)))))]) rfl ?_
    refine x_ifb_eq (tgt := 38) hx hb dX5_isSix_17 (by decide) (fun c_17 => ?_) (fun c_17 => ?_)
    · refine x_iconst hx hb dX5_isSix_38 ?_
      exact kend () hP hS (an_i (b2_f (fun q9 => c_17 (((wd_6 hi).mpr q9).2.1))).symm) trivial (by decide) dX5_isSix_39
    · refine lv_aload_n hx hb dX5_isSix_20 rfl (lv_at hl 0 rfl) ?_
      refine x_iconst hx hb dX5_isSix_21 ?_
      refine lv_iload hx hb dX5_isSix_22 (lv_at hl 4 rfl) ?_
      refine lv_iload hx hb dX5_isSix_24 (lv_at hl 5 rfl) ?_
      refine lv_iload hx hb dX5_isSix_26 (lv_at hl 6 rfl) ?_
      refine x_callV (As := [.int (iI 3), .int (iI d0), .int (iI e1), .int (iI f1)]) (rest := []) ⟨hx, hb, hml, hown, hts⟩ (kX5_has3 r ik ((nn : Nat) : Int) b0 b1 p.1 ((p.2.1 : Nat) : Int) ((p.2.2.1 : Nat) : Int) cv fa TB 3 d0 e1 f1 nn p rfl hn9 hTB ⟨rfl, rfl, rfl, hv_p⟩ hi (by omega) (by omega) (by omega) (by omega)) (cwV 4 hts gX5_isSix_X5_has3 rfl rfl rfl ykVX5_has3 ⟨Nat.le_of_ble_eq_true rfl, Nat.le_of_ble_eq_true rfl⟩) hP hK hD hS 0 4 rfl rfl rfl [0, 1] rfl (by decide) (fun _ => rfl) (fun _ => wRo r ik ((nn : Nat) : Int) (jk b0 b1 p.1 ((p.2.1 : Nat) : Int) ((p.2.2.1 : Nat) : Int) cv fa) ++ (wA cI (r 6) 120 TB)) (fun _ => rfl) rfl hl.1 rfl (Nat.le_of_ble_eq_true rfl) dX5_isSix_28 ⟨Nat.le_of_ble_eq_true rfl, Nat.le_of_ble_eq_true rfl⟩ (fun _ H locs _ hP hD hS => ?_)
      refine W.eq (g2 := F0 m 31 ls [.int (iI (b2 (decide (((byF TB nn (p.2.1 + 3) = d0 ∧ byF TB nn (p.2.1 + 3 + 1) = e1) ∧ byF TB nn (p.2.1 + 3 + 2) = f1)))))]) rfl ?_
      refine x_ifb_eq (tgt := 38) hx hb dX5_isSix_31 (by decide) (fun c_31 => ?_) (fun c_31 => ?_)
      · refine x_iconst hx hb dX5_isSix_38 ?_
        exact kend () hP hS (an_i (b2_f (fun q9 => c_31 (((wd_6 hi).mpr q9).2.2))).symm) trivial (by decide) dX5_isSix_39
      · refine x_iconst hx hb dX5_isSix_34 ?_
        refine lv_goto (tgt := 39) hx hb dX5_isSix_35 (by decide) ?_
        exact kend () hP hS (an_i (b2_t ((wd_6 hi).mp ⟨c_6, c_17, c_31⟩)).symm) trivial (by decide) dX5_isSix_39
theorem ykSX5_isNumber : yX5_isNumber.cls ≠ "java/lang/invoke/MethodHandle" ∧ yX5_isNumber.cls ≠ "java/lang/invoke/VarHandle" ∧ (parseMethodDescriptor yX5_isNumber.desc).map (fun d => d.parameters.length) = some 2 := by decide +kernel
theorem ykVX5_isNumber : yX5_isNumber.cls = RX5 ∧ yX5_isNumber.cls ≠ "java/lang/invoke/MethodHandle" ∧ yX5_isNumber.cls ≠ "java/lang/invoke/VarHandle" ∧ (parseMethodDescriptor yX5_isNumber.desc).map (fun d => d.parameters.length) = some 2 := ⟨rfl, ykSX5_isNumber⟩
set_option maxRecDepth 20000 in
theorem iT_X5_isNumber_X5 : ∀ w ∈ u_ws RX5 TX5 18, w ∈ wsX5_isNumber := by decide +kernel
set_option maxHeartbeats 4000000 in
set_option maxRecDepth 100000 in
theorem kX5_isNumber {l : Launch} {D : va_G} {cI cB : ClassId} (r : Nat → Nat) (ik : Int) (tn : Int) (b0 : Int) (b1 : Int) (ct : Int) (cf : Int) (ce : Int) (cv : Int) (fa : Int) (lo : Int) (mo : Int) (nn : Nat) (p : Tk) (hp : tyR ct cf ce cv p) (hi : tkI nn p) (hlo : lo = 0) (hm : -1 ≤ mo ∧ mo ≤ 999) : Ct l yX5_isNumber wsX5_isNumber 1 25 D [(cI, .int), (cB, .byte)] [.ref (r 0), .int (iI lo), .int (iI mo)] (wRo r ik tn (jk b0 b1 ct cf ce cv fa)) (S := Int) (fun u => some (.int (iI (b2 (decide (nbB p mo = true)))))) (fun u => u = if nbB p mo = true then fa else ((p.2.1 : Nat) : Int)) (fun u => wRo r ik tn (jk b0 b1 ct cf ce cv u)) := by
  refine CtZ.of (cc := cX5_isNumber) (maxL := 3) (by decide +kernel) rfl (Nat.le_of_ble_eq_true rfl) ?_
  intro pg e s m args below meth c Q A hx hb hml hts hown hP hK hD hS ls hl kend
  have hown : s.vm.findClass RX5 = some m.cls := hown
  have hl : lv_has ls 3 [(0, .ref (r 0)), (1, .int (iI lo)), (2, .int (iI mo))] := hl
  subst hlo
  obtain ⟨rfl, rfl, rfl, hv_p⟩ := hp
  refine lv_aload_n hx hb dX5_isNumber_0 rfl (lv_at hl 0 rfl) ?_
  obtain ⟨z1, z2, z3, z4, z5, z6⟩ := id hi
  refine va_get (D := D) (ci := 4) (v := .int (iI p.1)) (C := RX5) (T := TX5) (N := 18) hx hb hts (iT_X5_isNumber_X5) hown hK hP 0 rfl rfl 13 (by decide) (hts (.fieldLink RX5 217 "WordSupperModel" "token" "I") (by decide +kernel)) (fun _ h9 => h9) rfl dX5_isNumber_1 ?_
  refine x_iconst hx hb dX5_isNumber_4 ?_
  refine x_icmp_ne (tgt := 23) hx hb (by omega) (by decide) dX5_isNumber_5 (by decide) (fun c_5 => ?_) (fun c_5 => ?_)
  · refine lv_aload_n hx hb dX5_isNumber_23 rfl (lv_at hl 0 rfl) ?_
    refine x_callV (As := []) (rest := []) ⟨hx, hb, hml, hown, hts⟩ (kX5_fails r ik tn b0 b1 p.1 ((p.2.1 : Nat) : Int) ((p.2.2.1 : Nat) : Int) cv fa nn p ⟨rfl, rfl, rfl, hv_p⟩ hi) (cwV 0 hts gX5_isNumber_X5_fails rfl rfl rfl ykVX5_fails ⟨Nat.le_of_ble_eq_true rfl, Nat.le_of_ble_eq_true rfl⟩) hP hK hD hS 0 4 rfl rfl rfl [0] rfl (by decide) (fun _ => rfl) (fun _ => wRo r ik tn (jk b0 b1 p.1 ((p.2.1 : Nat) : Int) ((p.2.2.1 : Nat) : Int) cv ((p.2.1 : Nat) : Int))) (fun _ => rfl) rfl hl.1 rfl (Nat.le_of_ble_eq_true rfl) dX5_isNumber_24 ⟨Nat.le_of_ble_eq_true rfl, Nat.le_of_ble_eq_true rfl⟩ (fun _ H locs _ hP hD hS => ?_)
    refine W.eq (g2 := F0 m 27 ls [.int (iI 0)]) rfl ?_
    refine x_if_eq (tgt := 34) hx hb (by decide) dX5_isNumber_27 (by decide) (fun c_27 => ?_) (fun c_27 => ?_)
    · refine x_iconst hx hb dX5_isNumber_34 ?_
      exact kend ((p.2.1 : Nat) : Int) hP hS (an_i (b2_f (fun q9 => by have q8 := nbB_i.mp q9; omega)).symm) (if_neg (fun q9 => by have q8 := nbB_i.mp q9; omega)).symm (by decide) dX5_isNumber_35
    · exact absurd c_27 (by decide)
  · have hw9 := hv_p (by omega)
    refine lv_aload_n hx hb dX5_isNumber_8 rfl (lv_at hl 0 rfl) ?_
    refine va_get (D := D) (ci := 4) (v := .int (iI cv)) (C := RX5) (T := TX5) (N := 18) hx hb hts (iT_X5_isNumber_X5) hown hK hP 0 rfl rfl 16 (by decide) (hts (.fieldLink RX5 220 "WordSupperModel" "value" "I") (by decide +kernel)) (fun _ h9 => h9) rfl dX5_isNumber_9 ?_
    refine x_i2l hx hb (by omega) dX5_isNumber_12 ?_
    refine lv_iload_n hx hb dX5_isNumber_13 rfl (lv_at hl 1 rfl) ?_
    refine x_i2l hx hb (by decide) dX5_isNumber_14 ?_
    refine lv_iload_n hx hb dX5_isNumber_15 rfl (lv_at hl 2 rfl) ?_
    refine x_i2l hx hb (by omega) dX5_isNumber_16 ?_
    refine x_callS (As := [.long (lI cv), .long (lI 0), .long (lI mo)]) (rest := []) ⟨hx, hb, hml, hown, hts⟩ (kX5_isIn cv 0 mo (by omega) (by decide) (by omega)) (va_cwS 3 hts gX5_isNumber_X5_isIn rfl rfl rfl ykSX5_isIn ⟨Nat.le_of_ble_eq_true rfl, Nat.le_of_ble_eq_true rfl⟩) hP hK hD hS [] rfl (by decide) (fun _ => rfl) (fun _ => wRo r ik tn (jk b0 b1 p.1 ((p.2.1 : Nat) : Int) ((p.2.2.1 : Nat) : Int) cv fa)) (fun _ => rfl) rfl hl.1 rfl (Nat.le_of_ble_eq_true rfl) dX5_isNumber_17 ⟨Nat.le_of_ble_eq_true rfl, Nat.le_of_ble_eq_true rfl⟩ (fun _ H locs _ hP hD hS => ?_)
    refine W.eq (g2 := F0 m 20 ls [.int (iI (b2 (decide (0 ≤ cv ∧ cv ≤ mo))))]) rfl ?_
    refine x_ifb_ne (tgt := 30) hx hb dX5_isNumber_20 (by decide) (fun c_20 => ?_) (fun c_20 => ?_)
    · refine x_iconst hx hb dX5_isNumber_30 ?_
      refine lv_goto (tgt := 35) hx hb dX5_isNumber_31 (by decide) ?_
      exact kend fa hP hS (an_i (b2_t (nbB_i.mpr (by omega))).symm) (if_pos (nbB_i.mpr (by omega))).symm (by decide) dX5_isNumber_35
    · refine lv_aload_n hx hb dX5_isNumber_23 rfl (lv_at hl 0 rfl) ?_
      refine x_callV (As := []) (rest := []) ⟨hx, hb, hml, hown, hts⟩ (kX5_fails r ik tn b0 b1 p.1 ((p.2.1 : Nat) : Int) ((p.2.2.1 : Nat) : Int) cv fa nn p ⟨rfl, rfl, rfl, hv_p⟩ hi) (cwV 0 hts gX5_isNumber_X5_fails rfl rfl rfl ykVX5_fails ⟨Nat.le_of_ble_eq_true rfl, Nat.le_of_ble_eq_true rfl⟩) hP hK hD hS 0 4 rfl rfl rfl [0] rfl (by decide) (fun _ => rfl) (fun _ => wRo r ik tn (jk b0 b1 p.1 ((p.2.1 : Nat) : Int) ((p.2.2.1 : Nat) : Int) cv ((p.2.1 : Nat) : Int))) (fun _ => rfl) rfl hl.1 rfl (Nat.le_of_ble_eq_true rfl) dX5_isNumber_24 ⟨Nat.le_of_ble_eq_true rfl, Nat.le_of_ble_eq_true rfl⟩ (fun _ H locs _ hP hD hS => ?_)
      refine W.eq (g2 := F0 m 27 ls [.int (iI 0)]) rfl ?_
      refine x_if_eq (tgt := 34) hx hb (by decide) dX5_isNumber_27 (by decide) (fun c_27 => ?_) (fun c_27 => ?_)
      · refine x_iconst hx hb dX5_isNumber_34 ?_
        exact kend ((p.2.1 : Nat) : Int) hP hS (an_i (b2_f (fun q9 => by have q8 := nbB_i.mp q9; omega)).symm) (if_neg (fun q9 => by have q8 := nbB_i.mp q9; omega)).symm (by decide) dX5_isNumber_35
      · exact absurd c_27 (by decide)
